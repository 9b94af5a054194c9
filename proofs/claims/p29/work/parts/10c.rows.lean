/-! L1: each instruction of the small machine is one of the machine's -/
theorem pI_of {st : List Value} {f : Int32 → List Value → Prop} (h : pI st f) : ∃ x r, st = .int x :: r ∧ f x r := by
  cases st with
  | nil => exact h.elim
  | cons v r => cases v <;> first | exact h.elim | exact ⟨_, _, rfl, h⟩
theorem pL_of {st : List Value} {f : Int64 → List Value → Prop} (h : pL st f) : ∃ x r, st = .long x :: r ∧ f x r := by
  cases st with
  | nil => exact h.elim
  | cons v r => cases v <;> first | exact h.elim | exact ⟨_, _, rfl, h⟩
theorem pR_of {st : List Value} {f : Nat → List Value → Prop} (h : pR st f) : ∃ x r, st = .ref x :: r ∧ f x r := by
  cases st with
  | nil => exact h.elim
  | cons v r => cases v <;> first | exact h.elim | exact ⟨_, _, rfl, h⟩
theorem pV_of {st : List Value} {f : Value → List Value → Prop} (h : pV st f) : ∃ v r, st = v :: r ∧ f v r := by
  cases st with
  | nil => exact h.elim
  | cons v r => exact ⟨v, r, rfl, h⟩
theorem pops_of : ∀ {n : Nat} {st as r : List Value}, pops n st = some (as, r) → st = as.reverse ++ r ∧ as.length = n
  | 0, st, as, r, h => by
    cases h
    exact ⟨rfl, rfl⟩
  | n + 1, [], as, r, h => by cases h
  | n + 1, v :: st, as, r, h => by
    unfold pops at h
    obtain ⟨x, hx, hy⟩ := Option.map_eq_some_iff.mp h
    obtain ⟨a, b⟩ := x
    cases hy
    obtain ⟨h1, h2⟩ := pops_of hx
    refine ⟨?_, by simp [h2]⟩
    rw [h1]
    simp
theorem lkl_in {i : Nat} {v : Value} : ∀ {l : List (Nat × Value)}, lkl i l = some v → (i, v) ∈ l
  | [], h => by cases h
  | (j, w) :: t, h => by
    unfold lkl at h
    cases e : Nat.beq j i with
    | true =>
      rw [e] at h
      rw [Nat.eq_of_beq_eq_true e, Option.some.inj h]
      exact List.mem_cons_self
    | false =>
      rw [e] at h
      exact List.mem_cons_of_mem _ (lkl_in h)
theorem lk_at {q : Nat → Nat} {ls : Array Slot} {nL i : Nat} {l : List (Nat × Value)} {v : Value} (hl : lv_has ls nL (l.map (xql q))) (h : lkl i l = some v) : ls[i]? = some (.val (xq q v)) := hl.2.2 (i, xq q v) (List.mem_map.mpr ⟨(i, v), lkl_in h, rfl⟩)
theorem sv1_q {q : Nat → Nat} {i : Nat} {v : Value} {l : List (Nat × Value)} : (i, xq q v) :: (l.map (xql q)).filter (fun p => !(p.1 == i) && !(p.1 + 1 == i && p.2.category == 2)) = (sv1 i v l).map (xql q) := by
  unfold sv1
  rw [List.map_cons, List.filter_map]
  show (i, xq q v) :: _ = (i, xq q v) :: _
  refine congrArg (List.cons (i, xq q v)) (congrArg (List.map (xql q)) (List.filter_congr fun x _ => ?_))
  simp only [Function.comp, xql, xq_cat]
theorem sv2_q {q : Nat → Nat} {i : Nat} {v : Value} {l : List (Nat × Value)} : (i, xq q v) :: (l.map (xql q)).filter (fun p => !(p.1 == i) && (!(p.1 == i + 1) && !(p.1 + 1 == i && p.2.category == 2))) = (sv2 i v l).map (xql q) := by
  unfold sv2
  rw [List.map_cons, List.filter_map]
  show (i, xq q v) :: _ = (i, xq q v) :: _
  refine congrArg (List.cons (i, xq q v)) (congrArg (List.map (xql q)) (List.filter_congr fun x _ => ?_))
  simp only [Function.comp, xql, xq_cat]
theorem lkl_ix {i : Nat} {v : Value} : ∀ {l : List (Nat × Value)}, lkl i l = some v → ∃ k : Nat, l[k]? = some (i, v)
  | [], h => by cases h
  | (j, w) :: t, h => by
    unfold lkl at h
    cases e : Nat.beq j i with
    | true =>
      rw [e] at h
      refine ⟨0, ?_⟩
      rw [Nat.eq_of_beq_eq_true e, Option.some.inj h]
      rfl
    | false =>
      rw [e] at h
      obtain ⟨k, hk⟩ := lkl_ix h
      exact ⟨k + 1, hk⟩
theorem tg_of {pc : Nat} {o : Int} (h : 0 ≤ (pc : Int) + o) : (pc : Int) + o = (tgt pc o : Int) := by
  unfold tgt
  omega
theorem cat_q {q : Nat → Nat} (r : List Value) : ((r.map (xq q)).map fun v => v.category).sum = (r.map fun v => v.category).sum := by
  rw [List.map_map]
  exact congrArg List.sum (List.map_congr_left fun v _ => xq_cat q v)
theorem tl_q {q : Nat → Nat} (rv : Option Value) (r : List Value) : (rv.map (xq q)).toList ++ r.map (xq q) = (rv.toList ++ r).map (xq q) := by
  cases rv <;> rfl
theorem hw_of {k : Nat} {args : Array Value} {s : State} (hts : ∀ w ∈ kW k, w.before args s = true) {w : Cond} (h : w ∈ lw_tbl) (g : goodWord w = true) : w.before args s = true := hts w (al_in h g)
set_option maxRecDepth 100000 in
theorem layC_of {a x n K : Nat} (hK : 4 ≤ K) (hK9 : K < 9) (h : lay a = (K, x, n)) : 1000 ≤ a ∧ a - 1000 < 17 ∧ layC[a - 1000]? = some (K, x, n) := by
  rw [lay_eq] at h
  cases e : Nat.blt a 1000 with
  | true =>
    rw [e] at h
    have h0 : layL.getD a (9, 0, 0) = (K, x, n) := h
    by_cases hl : a < layL.length
    · have ha : (layL.all (fun y => decide (y.1 < 4))) = true := by decide +kernel
      rw [List.getD_eq_getElem?_getD, List.getElem?_eq_getElem hl] at h0
      have h1 := of_decide_eq_true (List.all_eq_true.mp ha _ (List.getElem_mem hl))
      rw [show layL[a] = (K, x, n) from h0] at h1
      exact absurd h1 (by simpa using hK)
    · rw [List.getD_eq_getElem?_getD, List.getElem?_eq_none (Nat.not_lt.mp hl)] at h0
      cases h0
      omega
  | false =>
    rw [e] at h
    have h0 : layC.getD (a - 1000) (9, 0, 0) = (K, x, n) := h
    have h2 : ¬ a < 1000 := fun z => by
      rw [show Nat.blt a 1000 = true by simpa [Nat.blt_eq] using z] at e
      cases e
    by_cases hl : a - 1000 < 17
    · refine ⟨by omega, hl, ?_⟩
      rw [List.getD_eq_getElem?_getD] at h0
      cases e2 : layC[a - 1000]? with
      | none => rw [e2] at h0; cases h0; omega
      | some y => rw [e2] at h0; exact congrArg some h0
    · rw [List.getD_eq_getElem?_getD, List.getElem?_eq_none (show layC.length ≤ a - 1000 from Nat.not_lt.mp hl)] at h0
      cases h0
      omega
theorem ly_of {k K x n : Nat} (h : lay k = (K, x, n)) (hK : K < 4) : k < 335 ∧ (K = 0 → x < 3) ∧ (K = 1 → x = 4) ∧ (K = 2 → x = 5 ∨ x = 6) := by
  have h1 := lay_lt h hK
  have h2 := List.all_eq_true.mp ly_all k (List.mem_range.mpr h1)
  rw [h] at h2
  refine ⟨h1, fun e => ?_, fun e => ?_, fun e => ?_⟩ <;> subst e <;> simpa using h2
-- the cells after a store
theorem ar_set {q : Nat → Nat} {cA : Nat → ClassId} {m : xM} {a x n i : Nat} {v : Int32} (h : lay a = (0, x, n)) (ha : a < 335) : (wd q cA m).set a (q a, .inl (cA x, n, .inl (upd (m.1 a) i v))) = wd q cA (mI m a i v) := by
  rw [← u2_eq, ← wd_set (q := q) (cA := cA) (m := m) (m' := mI m a i v) ha (fun j hj => en_eq (u2_ne hj) rfl rfl), en_0 h]
  rfl
theorem ar_setL {q : Nat → Nat} {cA : Nat → ClassId} {m : xM} {a x n i : Nat} {v : Int64} (h : lay a = (1, x, n)) (ha : a < 335) : (wd q cA m).set a (q a, .inl (cA x, n, .inr (.inl (vp_updL (m.2.1 a) i v)))) = wd q cA (mJ m a i v) := by
  rw [← u2_eqL, ← wd_set (q := q) (cA := cA) (m := m) (m' := mJ m a i v) ha (fun j hj => en_eq rfl (u2_ne hj) rfl), en_1 h]
  rfl
theorem ar_setC {q : Nat → Nat} {cA : Nat → ClassId} {m : xM} {a x n : Nat} {f : Nat → Int32} (h : lay a = (0, x, n)) (ha : a < 335) : (wd q cA m).set a (q a, .inl (cA x, n, .inl f)) = wd q cA (mC m a f) := by
  rw [← wd_set (q := q) (cA := cA) (m := m) (m' := mC m a f) ha (fun j hj => en_eq (if_neg hj) rfl rfl), en_0 h]
  have : (mC m a f).1 a = f := if_pos rfl
  rw [this]
theorem fl_put {q : Nat → Nat} {cA : Nat → ClassId} {m m' : xM} {a ci f : Nat} {v : Value} (h : lay a = (3, ci, kNf ci)) (ha : a < 335) (hf : f < kNf ci) (ho : ∀ j, j ≠ a → en q cA m' j = en q cA m j) (hg : ∀ j, j ≠ f → fvl m' a ci j = fvl m a ci j) (hv : fvl m' a ci f = v) : (wd q cA m).set a (q a, .inr (ci, ((List.range (kNf ci)).map (fun f => xq q (fvl m a ci f))).set f (xq q v))) = wd q cA m' := by
  rw [← wd_set (q := q) (cA := cA) (m := m) (m' := m') ha ho, en_3 h, ← hv, fl_set (g' := fun f => xq q (fvl m' a ci f)) hf (fun j hj => by rw [hg j hj])]
def ckB (e : Nat × (Nat × Nat) × Bool × Nat) : Bool := match e.2.1.1 with
  | 1 => !(kst e.2.1.2) && ((mwL.getD e.2.1.2 (false, 0, 0, 0)).2.2.1 != 9999 && ((kY e.2.1.2).cls == cln (kcl e.2.1.2) && decide (kcl e.2.1.2 < 13)))
  | 2 => kst e.2.1.2
  | 3 => !(kst e.2.1.2) && ((mwL.getD e.2.1.2 (false, 0, 0, 0)).2.2.1 != 9999 && ((kY e.2.1.2).cls == "java/lang/String" && decide (271 ≤ e.2.1.2)))
  | _ => true
set_option maxRecDepth 100000 in
theorem ck_all : (List.range 16).all (fun c => (CLL.getD c []).all ckB) = true := by decide +kernel
theorem cl_of {c i kd j : Nat} (h : kCl c i = some (kd, j)) : j < 273 ∧ (kd = 5 → Cond.methodLink (cln c) i arraycopyName ∈ lw_tbl) ∧ (kd = 1 ∨ kd = 2 ∨ kd = 3 → Cond.methodLinkNest (cln c) i (kY j) "WallChapels" ∈ lw_tbl ∨ Cond.methodLink (cln c) i (kY j) ∈ lw_tbl) ∧ (kd = 1 → kst j = false ∧ (mwL.getD j (false, 0, 0, 0)).2.2.1 ≠ 9999 ∧ (kY j).cls = cln (kcl j) ∧ kcl j < 13) ∧ (kd = 2 → kst j = true) ∧ (kd = 3 → kst j = false ∧ (mwL.getD j (false, 0, 0, 0)).2.2.1 ≠ 9999 ∧ (kY j).cls = "java/lang/String" ∧ 271 ≤ j) := by
  unfold kCl at h
  by_cases hc : c < 16
  · obtain ⟨e, he, hce⟩ := Option.map_eq_some_iff.mp h
    obtain ⟨⟨a, b⟩, ne, ps⟩ := e
    cases hce
    have h1 := List.all_eq_true.mp (List.all_eq_true.mp cl_all c (List.mem_range.mpr hc)) _ (lku_in he)
    have h2 := List.all_eq_true.mp (List.all_eq_true.mp ck_all c (List.mem_range.mpr hc)) _ (lku_in he)
    simp only [Bool.and_eq_true, decide_eq_true_eq] at h1
    have h3 := lwA_in h1.1
    refine ⟨h1.2, fun e5 => ?_, fun e1 => ?_, fun e1 => ?_, fun e1 => ?_, fun e1 => ?_⟩
    · subst e5; exact h3
    · rcases e1 with e1 | e1 | e1 <;> subst e1 <;> cases ne <;> first | exact Or.inl h3 | exact Or.inr h3
    · subst e1
      simp only [ckB, Bool.and_eq_true, Bool.not_eq_true', bne_iff_ne, beq_iff_eq, decide_eq_true_eq] at h2
      exact h2
    · subst e1
      exact h2
    · subst e1
      simp only [ckB, Bool.and_eq_true, Bool.not_eq_true', bne_iff_ne, beq_iff_eq, decide_eq_true_eq] at h2
      exact h2
  · rw [getD_out (show CLL.length ≤ c from Nat.not_lt.mp hc)] at h
    cases h
theorem mw_of {j : Nat} (h : j < 273) : (kst j = true → Cond.static (kY j) ∈ lw_tbl) ∧ (kst j = false → Cond.instanceMethod (kY j) ∈ lw_tbl ∧ ((mwL.getD j (false, 0, 0, 0)).2.2.1 ≠ 9999 → Cond.selects (kY j).cls (kY j) (kY j) ∈ lw_tbl)) ∧ Cond.initialized (kY j).cls ∈ lw_tbl := by
  have h1 := mwt_all h
  unfold mwt at h1
  unfold kst
  generalize mwL.getD j (false, 0, 0, 0) = x at h1 ⊢
  obtain ⟨b, a, c, i⟩ := x
  cases b
  · simp only [Bool.and_eq_true, Bool.or_eq_true, beq_iff_eq, decide_eq_true_eq] at h1
    refine ⟨fun z => (by cases z), fun _ => ⟨lwA_in h1.1.1, fun hn => ?_⟩, lwA_in h1.2⟩
    rcases h1.1.2 with h2 | h2
    · exact absurd h2 hn
    · exact lwA_in h2
  · simp only [Bool.and_eq_true, decide_eq_true_eq] at h1
    exact ⟨fun _ => lwA_in h1.1, fun z => (by cases z), lwA_in h1.2⟩
theorem md_of {j : Nat} (h : j < 273) : (kY j).cls ≠ "java/lang/invoke/MethodHandle" ∧ (kY j).cls ≠ "java/lang/invoke/VarHandle" ∧ (parseMethodDescriptor (kY j).desc).map (fun d => d.parameters.length) = some (knp j) := by
  have h1 := mo1_all h
  have h2 := mo2_all h
  unfold mo1 at h1
  unfold mo2 at h2
  simp only [Bool.and_eq_true, decide_eq_true_eq] at h1 h2
  exact ⟨h1.1, h1.2.1, h2⟩
theorem nl_of {j : Nat} (h : j < 273) : knl j ≤ 45 := by
  have h1 := mo1_all h
  unfold mo1 at h1
  simp only [Bool.and_eq_true, decide_eq_true_eq] at h1
  exact h1.2.2.1
def cdP (j : Nat) : Prop := Cond.code (kY j) (kB j) (knl j) (krt j) ∈ lw_tbl
theorem cd_0 : ∀ j ∈ [0, 1, 2, 3, 4, 5, 6, 7, 8, 9, 10, 11, 12, 13, 14, 15, 16, 17, 18, 19, 20, 21, 22, 23, 24, 25, 26, 27, 28, 29], cdP j := fa_cons (P := cdP) cdw0 (fa_cons (P := cdP) cdw1 (fa_cons (P := cdP) cdw2 (fa_cons (P := cdP) cdw3 (fa_cons (P := cdP) cdw4 (fa_cons (P := cdP) cdw5 (fa_cons (P := cdP) cdw6 (fa_cons (P := cdP) cdw7 (fa_cons (P := cdP) cdw8 (fa_cons (P := cdP) cdw9 (fa_cons (P := cdP) cdw10 (fa_cons (P := cdP) cdw11 (fa_cons (P := cdP) cdw12 (fa_cons (P := cdP) cdw13 (fa_cons (P := cdP) cdw14 (fa_cons (P := cdP) cdw15 (fa_cons (P := cdP) cdw16 (fa_cons (P := cdP) cdw17 (fa_cons (P := cdP) cdw18 (fa_cons (P := cdP) cdw19 (fa_cons (P := cdP) cdw20 (fa_cons (P := cdP) cdw21 (fa_cons (P := cdP) cdw22 (fa_cons (P := cdP) cdw23 (fa_cons (P := cdP) cdw24 (fa_cons (P := cdP) cdw25 (fa_cons (P := cdP) cdw26 (fa_cons (P := cdP) cdw27 (fa_cons (P := cdP) cdw28 (fa_cons (P := cdP) cdw29 (fa_nil))))))))))))))))))))))))))))))
theorem cd_30 : ∀ j ∈ [30, 31, 32, 33, 34, 35, 36, 37, 38, 39, 40, 41, 42, 43, 44, 45, 46, 47, 48, 49, 50, 51, 52, 53, 54, 55, 56, 57, 58, 59], cdP j := fa_cons (P := cdP) cdw30 (fa_cons (P := cdP) cdw31 (fa_cons (P := cdP) cdw32 (fa_cons (P := cdP) cdw33 (fa_cons (P := cdP) cdw34 (fa_cons (P := cdP) cdw35 (fa_cons (P := cdP) cdw36 (fa_cons (P := cdP) cdw37 (fa_cons (P := cdP) cdw38 (fa_cons (P := cdP) cdw39 (fa_cons (P := cdP) cdw40 (fa_cons (P := cdP) cdw41 (fa_cons (P := cdP) cdw42 (fa_cons (P := cdP) cdw43 (fa_cons (P := cdP) cdw44 (fa_cons (P := cdP) cdw45 (fa_cons (P := cdP) cdw46 (fa_cons (P := cdP) cdw47 (fa_cons (P := cdP) cdw48 (fa_cons (P := cdP) cdw49 (fa_cons (P := cdP) cdw50 (fa_cons (P := cdP) cdw51 (fa_cons (P := cdP) cdw52 (fa_cons (P := cdP) cdw53 (fa_cons (P := cdP) cdw54 (fa_cons (P := cdP) cdw55 (fa_cons (P := cdP) cdw56 (fa_cons (P := cdP) cdw57 (fa_cons (P := cdP) cdw58 (fa_cons (P := cdP) cdw59 (fa_nil))))))))))))))))))))))))))))))
theorem cd_60 : ∀ j ∈ [60, 61, 62, 63, 64, 65, 66, 67, 68, 69, 70, 71, 72, 73, 74, 75, 76, 77, 78, 79, 80, 81, 82, 83, 84, 85, 86, 87, 88, 89], cdP j := fa_cons (P := cdP) cdw60 (fa_cons (P := cdP) cdw61 (fa_cons (P := cdP) cdw62 (fa_cons (P := cdP) cdw63 (fa_cons (P := cdP) cdw64 (fa_cons (P := cdP) cdw65 (fa_cons (P := cdP) cdw66 (fa_cons (P := cdP) cdw67 (fa_cons (P := cdP) cdw68 (fa_cons (P := cdP) cdw69 (fa_cons (P := cdP) cdw70 (fa_cons (P := cdP) cdw71 (fa_cons (P := cdP) cdw72 (fa_cons (P := cdP) cdw73 (fa_cons (P := cdP) cdw74 (fa_cons (P := cdP) cdw75 (fa_cons (P := cdP) cdw76 (fa_cons (P := cdP) cdw77 (fa_cons (P := cdP) cdw78 (fa_cons (P := cdP) cdw79 (fa_cons (P := cdP) cdw80 (fa_cons (P := cdP) cdw81 (fa_cons (P := cdP) cdw82 (fa_cons (P := cdP) cdw83 (fa_cons (P := cdP) cdw84 (fa_cons (P := cdP) cdw85 (fa_cons (P := cdP) cdw86 (fa_cons (P := cdP) cdw87 (fa_cons (P := cdP) cdw88 (fa_cons (P := cdP) cdw89 (fa_nil))))))))))))))))))))))))))))))
theorem cd_90 : ∀ j ∈ [90, 91, 92, 93, 94, 95, 96, 97, 98, 99, 100, 101, 102, 103, 104, 105, 106, 107, 108, 109, 110, 111, 112, 113, 114, 115, 116, 117, 118, 119], cdP j := fa_cons (P := cdP) cdw90 (fa_cons (P := cdP) cdw91 (fa_cons (P := cdP) cdw92 (fa_cons (P := cdP) cdw93 (fa_cons (P := cdP) cdw94 (fa_cons (P := cdP) cdw95 (fa_cons (P := cdP) cdw96 (fa_cons (P := cdP) cdw97 (fa_cons (P := cdP) cdw98 (fa_cons (P := cdP) cdw99 (fa_cons (P := cdP) cdw100 (fa_cons (P := cdP) cdw101 (fa_cons (P := cdP) cdw102 (fa_cons (P := cdP) cdw103 (fa_cons (P := cdP) cdw104 (fa_cons (P := cdP) cdw105 (fa_cons (P := cdP) cdw106 (fa_cons (P := cdP) cdw107 (fa_cons (P := cdP) cdw108 (fa_cons (P := cdP) cdw109 (fa_cons (P := cdP) cdw110 (fa_cons (P := cdP) cdw111 (fa_cons (P := cdP) cdw112 (fa_cons (P := cdP) cdw113 (fa_cons (P := cdP) cdw114 (fa_cons (P := cdP) cdw115 (fa_cons (P := cdP) cdw116 (fa_cons (P := cdP) cdw117 (fa_cons (P := cdP) cdw118 (fa_cons (P := cdP) cdw119 (fa_nil))))))))))))))))))))))))))))))
theorem cd_120 : ∀ j ∈ [120, 121, 122, 123, 124, 125, 126, 127, 128, 129, 130, 131, 132, 133, 134, 135, 136, 137, 138, 139, 140, 141, 142, 143, 144, 145, 146, 147, 148, 149], cdP j := fa_cons (P := cdP) cdw120 (fa_cons (P := cdP) cdw121 (fa_cons (P := cdP) cdw122 (fa_cons (P := cdP) cdw123 (fa_cons (P := cdP) cdw124 (fa_cons (P := cdP) cdw125 (fa_cons (P := cdP) cdw126 (fa_cons (P := cdP) cdw127 (fa_cons (P := cdP) cdw128 (fa_cons (P := cdP) cdw129 (fa_cons (P := cdP) cdw130 (fa_cons (P := cdP) cdw131 (fa_cons (P := cdP) cdw132 (fa_cons (P := cdP) cdw133 (fa_cons (P := cdP) cdw134 (fa_cons (P := cdP) cdw135 (fa_cons (P := cdP) cdw136 (fa_cons (P := cdP) cdw137 (fa_cons (P := cdP) cdw138 (fa_cons (P := cdP) cdw139 (fa_cons (P := cdP) cdw140 (fa_cons (P := cdP) cdw141 (fa_cons (P := cdP) cdw142 (fa_cons (P := cdP) cdw143 (fa_cons (P := cdP) cdw144 (fa_cons (P := cdP) cdw145 (fa_cons (P := cdP) cdw146 (fa_cons (P := cdP) cdw147 (fa_cons (P := cdP) cdw148 (fa_cons (P := cdP) cdw149 (fa_nil))))))))))))))))))))))))))))))
theorem cd_150 : ∀ j ∈ [150, 151, 152, 153, 154, 155, 156, 157, 158, 159, 160, 161, 162, 163, 164, 165, 166, 167, 168, 169, 170, 171, 172, 173, 174, 175, 176, 177, 178, 179], cdP j := fa_cons (P := cdP) cdw150 (fa_cons (P := cdP) cdw151 (fa_cons (P := cdP) cdw152 (fa_cons (P := cdP) cdw153 (fa_cons (P := cdP) cdw154 (fa_cons (P := cdP) cdw155 (fa_cons (P := cdP) cdw156 (fa_cons (P := cdP) cdw157 (fa_cons (P := cdP) cdw158 (fa_cons (P := cdP) cdw159 (fa_cons (P := cdP) cdw160 (fa_cons (P := cdP) cdw161 (fa_cons (P := cdP) cdw162 (fa_cons (P := cdP) cdw163 (fa_cons (P := cdP) cdw164 (fa_cons (P := cdP) cdw165 (fa_cons (P := cdP) cdw166 (fa_cons (P := cdP) cdw167 (fa_cons (P := cdP) cdw168 (fa_cons (P := cdP) cdw169 (fa_cons (P := cdP) cdw170 (fa_cons (P := cdP) cdw171 (fa_cons (P := cdP) cdw172 (fa_cons (P := cdP) cdw173 (fa_cons (P := cdP) cdw174 (fa_cons (P := cdP) cdw175 (fa_cons (P := cdP) cdw176 (fa_cons (P := cdP) cdw177 (fa_cons (P := cdP) cdw178 (fa_cons (P := cdP) cdw179 (fa_nil))))))))))))))))))))))))))))))
theorem cd_180 : ∀ j ∈ [180, 181, 182, 183, 184, 185, 186, 187, 188, 189, 190, 191, 192, 193, 194, 195, 196, 197, 198, 199, 200, 201, 202, 203, 204, 205, 206, 207, 208, 209], cdP j := fa_cons (P := cdP) cdw180 (fa_cons (P := cdP) cdw181 (fa_cons (P := cdP) cdw182 (fa_cons (P := cdP) cdw183 (fa_cons (P := cdP) cdw184 (fa_cons (P := cdP) cdw185 (fa_cons (P := cdP) cdw186 (fa_cons (P := cdP) cdw187 (fa_cons (P := cdP) cdw188 (fa_cons (P := cdP) cdw189 (fa_cons (P := cdP) cdw190 (fa_cons (P := cdP) cdw191 (fa_cons (P := cdP) cdw192 (fa_cons (P := cdP) cdw193 (fa_cons (P := cdP) cdw194 (fa_cons (P := cdP) cdw195 (fa_cons (P := cdP) cdw196 (fa_cons (P := cdP) cdw197 (fa_cons (P := cdP) cdw198 (fa_cons (P := cdP) cdw199 (fa_cons (P := cdP) cdw200 (fa_cons (P := cdP) cdw201 (fa_cons (P := cdP) cdw202 (fa_cons (P := cdP) cdw203 (fa_cons (P := cdP) cdw204 (fa_cons (P := cdP) cdw205 (fa_cons (P := cdP) cdw206 (fa_cons (P := cdP) cdw207 (fa_cons (P := cdP) cdw208 (fa_cons (P := cdP) cdw209 (fa_nil))))))))))))))))))))))))))))))
theorem cd_210 : ∀ j ∈ [210, 211, 212, 213, 214, 215, 216, 217, 218, 219, 220, 221, 222, 223, 224, 225, 226, 227, 228, 229, 230, 231, 232, 233, 234, 235, 236, 237, 238, 239], cdP j := fa_cons (P := cdP) cdw210 (fa_cons (P := cdP) cdw211 (fa_cons (P := cdP) cdw212 (fa_cons (P := cdP) cdw213 (fa_cons (P := cdP) cdw214 (fa_cons (P := cdP) cdw215 (fa_cons (P := cdP) cdw216 (fa_cons (P := cdP) cdw217 (fa_cons (P := cdP) cdw218 (fa_cons (P := cdP) cdw219 (fa_cons (P := cdP) cdw220 (fa_cons (P := cdP) cdw221 (fa_cons (P := cdP) cdw222 (fa_cons (P := cdP) cdw223 (fa_cons (P := cdP) cdw224 (fa_cons (P := cdP) cdw225 (fa_cons (P := cdP) cdw226 (fa_cons (P := cdP) cdw227 (fa_cons (P := cdP) cdw228 (fa_cons (P := cdP) cdw229 (fa_cons (P := cdP) cdw230 (fa_cons (P := cdP) cdw231 (fa_cons (P := cdP) cdw232 (fa_cons (P := cdP) cdw233 (fa_cons (P := cdP) cdw234 (fa_cons (P := cdP) cdw235 (fa_cons (P := cdP) cdw236 (fa_cons (P := cdP) cdw237 (fa_cons (P := cdP) cdw238 (fa_cons (P := cdP) cdw239 (fa_nil))))))))))))))))))))))))))))))
theorem cd_240 : ∀ j ∈ [240, 241, 242, 243, 244, 245, 246, 247, 248, 249, 250, 251, 252, 253, 254, 255, 256, 257, 258, 259, 260, 261, 262, 263, 264, 265, 266, 267, 268, 269], cdP j := fa_cons (P := cdP) cdw240 (fa_cons (P := cdP) cdw241 (fa_cons (P := cdP) cdw242 (fa_cons (P := cdP) cdw243 (fa_cons (P := cdP) cdw244 (fa_cons (P := cdP) cdw245 (fa_cons (P := cdP) cdw246 (fa_cons (P := cdP) cdw247 (fa_cons (P := cdP) cdw248 (fa_cons (P := cdP) cdw249 (fa_cons (P := cdP) cdw250 (fa_cons (P := cdP) cdw251 (fa_cons (P := cdP) cdw252 (fa_cons (P := cdP) cdw253 (fa_cons (P := cdP) cdw254 (fa_cons (P := cdP) cdw255 (fa_cons (P := cdP) cdw256 (fa_cons (P := cdP) cdw257 (fa_cons (P := cdP) cdw258 (fa_cons (P := cdP) cdw259 (fa_cons (P := cdP) cdw260 (fa_cons (P := cdP) cdw261 (fa_cons (P := cdP) cdw262 (fa_cons (P := cdP) cdw263 (fa_cons (P := cdP) cdw264 (fa_cons (P := cdP) cdw265 (fa_cons (P := cdP) cdw266 (fa_cons (P := cdP) cdw267 (fa_cons (P := cdP) cdw268 (fa_cons (P := cdP) cdw269 (fa_nil))))))))))))))))))))))))))))))
theorem cd_270 : ∀ j ∈ [270, 271, 272], cdP j := fa_cons (P := cdP) cdw270 (fa_cons (P := cdP) cdw271 (fa_cons (P := cdP) cdw272 (fa_nil)))
theorem cd_in {j : Nat} (h : j < 273) : Cond.code (kY j) (kB j) (knl j) (krt j) ∈ lw_tbl := by
  by_cases h0 : j < 30
  · exact cd_0 j (by simp only [List.mem_cons, List.not_mem_nil, or_false]; omega)
  by_cases h30 : j < 60
  · exact cd_30 j (by simp only [List.mem_cons, List.not_mem_nil, or_false]; omega)
  by_cases h60 : j < 90
  · exact cd_60 j (by simp only [List.mem_cons, List.not_mem_nil, or_false]; omega)
  by_cases h90 : j < 120
  · exact cd_90 j (by simp only [List.mem_cons, List.not_mem_nil, or_false]; omega)
  by_cases h120 : j < 150
  · exact cd_120 j (by simp only [List.mem_cons, List.not_mem_nil, or_false]; omega)
  by_cases h150 : j < 180
  · exact cd_150 j (by simp only [List.mem_cons, List.not_mem_nil, or_false]; omega)
  by_cases h180 : j < 210
  · exact cd_180 j (by simp only [List.mem_cons, List.not_mem_nil, or_false]; omega)
  by_cases h210 : j < 240
  · exact cd_210 j (by simp only [List.mem_cons, List.not_mem_nil, or_false]; omega)
  by_cases h240 : j < 270
  · exact cd_240 j (by simp only [List.mem_cons, List.not_mem_nil, or_false]; omega)
  by_cases h270 : j < 273
  · exact cd_270 j (by simp only [List.mem_cons, List.not_mem_nil, or_false]; omega)
  exact absurd h (by omega)
theorem lay_str {a : Nat} (h : (lay a).1 = 5) : ∃ i, i < 5 ∧ a = 1000 + i := by
  obtain ⟨h1, h2, h3⟩ := layC_of (a := a) (K := 5) (x := (lay a).2.1) (n := (lay a).2.2) (by decide) (by decide) (by rw [← h])
  have h4 : (List.range 17).all (fun i => decide (((layC.getD i (9, 0, 0)).1 = 5) → i < 5)) = true := by decide +kernel
  have h5 := of_decide_eq_true (List.all_eq_true.mp h4 (a - 1000) (List.mem_range.mpr h2))
  rw [List.getD_eq_getElem?_getD, h3] at h5
  exact ⟨a - 1000, h5 rfl, by omega⟩
section MYC
variable {p : Program} {l : Launch} {e : Env} {R : Room} {s : State} {m : MethodId} {args : Array Value} {below : List Frame} {meth : Method} {c : Code} {H : Heap} {locs : List Loc} {cells slots : Nat} {Q : State → Prop}
variable {cc : ByteArray} {pc : Nat} {ls : Array Slot} {rest : List Value} {D : va_G} {cl : List vw_C} {A : Nat → Prop} {a : Nat} {tys : List (ClassId × FieldType)} {ws : va_W}
/-- arraycopy out of a constant row of ints into a row of the world (after the proof of the kit's row for bytes) -/
theorem my_copyT (hexec : p.tables.exec = Jvm.exec) (hb : c.code = cc) (hml : c.maxLocals = ls.size) {own : String} {index : Nat} (hown : s.vm.findClass own = some m.cls) (hlink : (Cond.methodLink own index arraycopyName).before args s = true) (hnat : (Cond.native arraycopyName).before args s = true) (hstat : (Cond.static arraycopyName).before args s = true) (hini : (Cond.initialized "java/lang/System").before args s = true)
    (hK : va_K D cl tys s) (hP : va_P D cl ws H) (hD : va_D A ws) (hS : va_S A s.heap H locs) {b0 n0 : Nat} {f : Nat → Int32} (hX : va_T .int b0 n0 (fun j => .int (f j)) A s s.heap) (q1 t1 : Nat) {c1 : ClassId} {n1 : Nat} {g : Nat → Int32} (ha1 : ws[q1]? = some (a, .inl (c1, n1, .inl g))) (ht1 : tys[t1]? = some (c1, .int))
    {sp dp n : Int32} (h1 : ¬ sp < 0) (h2 : ¬ dp < 0) (h3 : ¬ n < 0) (h4 : sp.toNatClampNeg + n.toNatClampNeg ≤ n0) (h5 : dp.toNatClampNeg + n.toNatClampNeg ≤ n1)
    (hframes : 1 ≤ R.frames) (hlocals : (rest.map fun v => v.category).sum + (nativeFrameWords "java/lang/System" "arraycopy" 5 + 11) ≤ R.locals) (hdg : decode cc pc = .ok (.invokestatic index, 3))
    (kk : ∀ (H1 : Heap) (locs1 : List Loc), va_P D cl (ws.set q1 (a, .inl (c1, n1, .inl (va_cpy f g sp.toNatClampNeg dp.toNatClampNeg n.toNatClampNeg)))) H1 → va_D A (ws.set q1 (a, .inl (c1, n1, .inl (va_cpy f g sp.toNatClampNeg dp.toNatClampNeg n.toNatClampNeg)))) → va_S A s.heap H1 locs1 → W p l e R s m args below meth c H1 locs1 cells slots Q (F0 m (pc + 3) ls rest)) : W p l e R s m args below meth c H locs cells slots Q (F0 m pc ls (.int n :: .int dp :: .ref a :: .int sp :: .ref b0 :: rest)) := by
  have pos : ∀ z : Int32, ¬ z < 0 → z.toInt = (z.toNatClampNeg : Int) := by
    intro z hz
    have h0 : (0 : Int) ≤ z.toInt := by
      have := Int32.not_lt.mp hz
      simpa using Int32.le_iff_toInt_le.mp this
    show z.toInt = ((z.toInt.toNat : Nat) : Int)
    omega
  intro T hT X
  obtain ⟨src, y1, y2, y3, y4, -, y5, y7⟩ := hX
  have hsrc : H[b0]? = some src := by rw [hS.2.1 b0 (Array.getElem?_eq_some_iff.mp y1).1 y7]; exact y1
  have hdst : H[a]? = some (vp_cell c1 (n1, .inl g)) := hP q1 _ ha1
  obtain ⟨y6, k0, hk0, cm0, hkk0⟩ := y2
  obtain ⟨-, k1, hk1, cm1, hkk1⟩ := (hK.2 t1 _ ht1).1 n1 (fun j => .int (g j))
  obtain ⟨vm', X', step⟩ := X.arraycopy hexec hown hlink hnat hstat hini (src := b0) (dst := a) (cs := src) (cd := vp_cell c1 (n1, .inl g)) (srcPos := sp) (destPos := dp) (n := n) (by rw [hT]; exact hsrc) (by rw [hT]; exact hdst)
    y6 (fun _ h => by cases h) y3 (fun h => by cases h) hk0 hk1 hkk0 hkk1 (by simp [refKind]) h1 h2 h3
    (by rw [pos sp h1, pos n h3]; omega)
    (by rw [pos dp h2, pos n h3]; show ¬ _ > ((arrV c1 n1 (fun j => .int (g j))).slots.size : Int); rw [arrV_size]; omega)
    (fun vm₁ _ i hi => by
      have e : src.slots.getD (sp.toNatClampNeg + i) .null = .int (f (sp.toNatClampNeg + i)) := by
        rw [Array.getD_eq_getD_getElem?, y5 _ (by omega)]
        rfl
      refine ⟨?_, ?_⟩
      · rw [e]
        rfl
      · rw [e]
        exact trivial)
    (g := F0 m pc ls (.int n :: .int dp :: .ref a :: .int sp :: .ref b0 :: rest)) rfl (by rw [hml]) (rest := rest) rfl (by rw [hb]; exact hdg) hframes (by show 2 * 0 + _ + _ ≤ _; omega)
  have e1 : copied src (vp_cell c1 (n1, .inl g)) sp dp n = vp_cell c1 (n1, .inl (va_cpy f g sp.toNatClampNeg dp.toNatClampNeg n.toNatClampNeg)) := va_copiedX (fun z => .int z) src c1 f g y5 h4
  rw [e1] at X' step
  generalize hfr : va_cpy f g sp.toNatClampNeg dp.toNatClampNeg n.toNatClampNeg = f9 at X' step kk
  have hl : a < H.size := (Array.getElem?_eq_some_iff.mp hdst).1
  have hheap : ((T.setVm vm').setCell a (vp_cell c1 (n1, .inl f9))).heap = H.setIfInBounds a (vp_cell c1 (n1, .inl f9)) := by rw [← hT]; rfl
  have oq : ∀ q : Nat, q ≠ a → (H.setIfInBounds a (vp_cell c1 (n1, .inl f9)))[q]? = H[q]? := fun q hq => by simp [Array.getElem?_setIfInBounds, Ne.symm hq]
  have hat : va_at D cl (a, .inl (c1, n1, .inl f9)) (H.setIfInBounds a (vp_cell c1 (n1, .inl f9))) := show (H.setIfInBounds a _)[a]? = some _ by simp [Array.getElem?_setIfInBounds, hl]
  obtain ⟨t, a1, b1⟩ := kk _ _ (hP.set hD ha1 hat oq) (hD.set ha1) ⟨by simp; exact hS.1, fun q g1 g2 => by
      rw [oq q (fun e => g2 (by rw [e]; exact hD.2 q1 _ ha1))]
      exact hS.2.1 q g1 g2, fun q hq => by
      rcases List.mem_append.mp hq with h | h
      · exact hS.2.2 q h
      · obtain ⟨z, -, hz⟩ := List.mem_map.mp h
        rw [← hz]
        exact hD.2 q1 _ ha1⟩ _ hheap X'
  exact ⟨t, step t a1, b1⟩
end MYC
set_option maxRecDepth 100000 in
theorem ac_nat : Cond.native arraycopyName ∈ lw_tbl := lwA_in (i := 583) (by decide +kernel)
set_option maxRecDepth 100000 in
theorem ac_st : Cond.static arraycopyName ∈ lw_tbl := lwA_in (i := 582) (by decide +kernel)
set_option maxRecDepth 100000 in
theorem ac_ini : Cond.initialized "java/lang/System" ∈ lw_tbl := lwA_in (i := 161) (by decide +kernel)
set_option maxRecDepth 100000 in
theorem lay_cst {a x n : Nat} (h : lay a = (4, x, n)) : ∃ j, j < 12 ∧ a = 1005 + j ∧ (x = 3 → saT j = .char) ∧ (x = 0 → saT j = .int) := by
  obtain ⟨h1, h2, h3⟩ := layC_of (by decide) (by decide) h
  have h4 : (List.range 17).all (fun i => decide (((layC.getD i (9, 0, 0)).1 = 4) → 5 ≤ i)) = true := by decide +kernel
  have h5 := of_decide_eq_true (List.all_eq_true.mp h4 (a - 1000) (List.mem_range.mpr h2))
  rw [List.getD_eq_getElem?_getD, h3] at h5
  have h6 : 5 ≤ a - 1000 := h5 rfl
  have h7 : 1005 + (a - 1005) = a := by omega
  have h8 : a - 1005 < 12 := by omega
  refine ⟨a - 1005, h8, h7.symm, ?_⟩
  unfold saT
  rw [h7, h]
  exact ⟨fun e => by subst e; rfl, fun e => by subst e; rfl⟩
def rmd (d : Nat) : Room := { frames := d + 4, cells := 0, slots := 0, locals := 64 * (d + 4) }
