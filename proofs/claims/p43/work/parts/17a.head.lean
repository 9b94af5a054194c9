/-! THE CLAIM OUT OF ONE WALK OF THE LAW'S BODY. Your part is whole_start (and what it stands on); all else here is the same for every law, but numbers. -/
def R_law : String := "WallChapelsLaw"
def lw_P (b : Addr) (xs : List Int32) (args : Array Value) (s : State) : Prop := args = #[.ref b] ∧ s.IntsAt b xs ∧ xs.length ≤ 3072 ∧ (Jvm.Cond.and given_1 narrow_1).before args s = true
def lw_Q (_ : Array Value) (s : State) (o : Outcome) (t : State) : Prop := o = .returned (some (.int 1)) ∧ Framed s o t [] 601024 7293033
def lw_Z (below : List Frame) (a : Array Value) (s : State) : State → Prop := fun t => ∃ o, t.status = .running ∧ Ended t below o ∧ lw_Q a s o t
/-- the law's own end, with 1 on the stack, nothing written that was there before, its room as the claim has it -/
theorem lw_ret {p : Program} {l : Launch} {e : Env} {s : State} {m : MethodId} {below : List Frame} {meth : Method} {c : Code} {b : Nat} (hx : p.tables.exec = Jvm.exec) (hb : c.code = code) (hr : meth.sig.returnType = ret) (hlocks : meth.locks = false) {pc : Nat} {H : Heap} {ls : Array Slot} (hdg : decode code pc = .ok (.ireturn, 1)) : W p l e room_1 s m #[Value.ref b] below meth c H [] 601024 7293033 (lw_Z below #[Value.ref b] s) (F0 m pc ls [.int 1]) := by
  intro T hT X
  obtain ⟨fs, hret, hrun, hended, hW, hframe⟩ := X.leave (v := some (.int 1)) (hlocks := hlocks) (fun h => by rw [hr] at h; cases h)
  have hmeth' : T.vm.method? m = some meth := X.method'
  refine ⟨T.setFrames fs, ?_, .returned (some (.int 1)), hrun, hended, rfl, ⟨_, rfl⟩, hW, hframe⟩
  jvm_step X.here [X.here.top, hx, hb, hdg, hmeth', hr, ret, narrow_b1]
  (try refine ⟨rfl, ?_⟩); (try refine ⟨rfl, ?_⟩)
  first | (intro acts; rw [hret _ acts rfl rfl rfl]) | rw [hret _ _ rfl rfl rfl]
  exact Steps.refl _
/-- what holds at the law's entry: the machine, the code, the tables' words (any of lw_tbl by 'hts w (by decide +kernel)'), the script of L ints xs at the cell b, what the Statement gives of the start (any of its parts by flat_of_before) -/
def lw_At (p : Program) (s : State) (m : MethodId) (meth : Method) (c : Code) (b L : Nat) (xs : Nat → Int32) : Prop :=
  p.tables.exec = Jvm.exec ∧ c.code = code ∧ meth.sig.returnType = ret ∧ c.maxLocals = 7 ∧ s.vm.findClass R_law = some m.cls ∧ (∀ w ∈ lw_tbl, w.before #[Value.ref b] s = true) ∧ va_X b L xs s s.heap ∧ b < s.heap.size ∧ meth.locks = false ∧ (Jvm.Cond.and given_1 narrow_1).before #[Value.ref b] s = true
theorem st_gx {s : State} {b : Nat} (hts : ∀ w ∈ lw_tbl, w.before #[Value.ref b] s = true) : gxP s := ⟨fun w hw hi => va_Nw.of (gx_is_on w hi) (hts w hw), aoa_of (hts (.arrayOver (.array .int)) (lwA_in (i := 213) (by decide +kernel))), va_AO.of (hts (.arrayOver (.object "WallChapels$Scene")) (lwA_in (i := 471) (by decide +kernel)))⟩
set_option maxRecDepth 100000 in
set_option maxHeartbeats 8000000 in
theorem st_sof {s : State} {b : Nat} (hgv : (Jvm.Cond.and given_1 narrow_1).before #[Value.ref b] s = true) : ∃ sk sv : Nat → Nat, vk_S 5 [1, 6, 2, 4, 2] [[121], [121, 119, 102, 108, 99, 100], [110, 107], [97, 98, 121, 119], [104, 102]] sk sv (fun q : Nat => s.heap.size ≤ q) s s.heap ∧ ∀ i : Nat, i < 5 → (Term.string (cln 12) (srI i)).eval #[Value.ref b] s none [] s = some (.ref (sk i)) := by
  have hs := flat_of_before _ hgv
  have hA : ∀ a : Nat, a < s.heap.size → ¬ (fun q : Nat => s.heap.size ≤ q) a := fun a h => Nat.not_le.mpr h
  refine vk_Sof (args := #[Value.ref b]) (s := s) (N := 5) (tm := (fun i => Term.string (cln 12) (srI i))) (len := [1, 6, 2, 4, 2]) (byt := [[121], [121, 119, 102, 108, 99, 100], [110, 107], [97, 98, 121, 119], [104, 102]]) (A := fun q : Nat => s.heap.size ≤ q) ?_ ?_ ?_ ?_ ?_ ?_ ?_ hA
  · intro i hi
    match i, hi with
    | 0, _ => decide
    | 1, _ => decide
    | 2, _ => decide
    | 3, _ => decide
    | 4, _ => decide
    | i + 5, h => exact absurd h (by omega)
  · intro i hi
    match i, hi with
    | 0, _ => exact hs _ (by decide +kernel)
    | 1, _ => exact hs _ (by decide +kernel)
    | 2, _ => exact hs _ (by decide +kernel)
    | 3, _ => exact hs _ (by decide +kernel)
    | 4, _ => exact hs _ (by decide +kernel)
    | i + 5, h => exact absurd h (by omega)
  · intro i hi
    match i, hi with
    | 0, _ => exact hs _ (by decide +kernel)
    | 1, _ => exact hs _ (by decide +kernel)
    | 2, _ => exact hs _ (by decide +kernel)
    | 3, _ => exact hs _ (by decide +kernel)
    | 4, _ => exact hs _ (by decide +kernel)
    | i + 5, h => exact absurd h (by omega)
  · intro i hi
    match i, hi with
    | 0, _ => exact hs _ (by decide +kernel)
    | 1, _ => exact hs _ (by decide +kernel)
    | 2, _ => exact hs _ (by decide +kernel)
    | 3, _ => exact hs _ (by decide +kernel)
    | 4, _ => exact hs _ (by decide +kernel)
    | i + 5, h => exact absurd h (by omega)
  · intro i hi
    match i, hi with
    | 0, _ => exact hs _ (by decide +kernel)
    | 1, _ => exact hs _ (by decide +kernel)
    | 2, _ => exact hs _ (by decide +kernel)
    | 3, _ => exact hs _ (by decide +kernel)
    | 4, _ => exact hs _ (by decide +kernel)
    | i + 5, h => exact absurd h (by omega)
  · intro i hi
    match i, hi with
    | 0, _ =>
      intro j hj
      match j, hj with
      | 0, _ => exact hs _ (by decide +kernel)
      | j + 1, h => exact absurd (show j + 1 < 1 from h) (by omega)
    | 1, _ =>
      intro j hj
      match j, hj with
      | 0, _ => exact hs _ (by decide +kernel)
      | 1, _ => exact hs _ (by decide +kernel)
      | 2, _ => exact hs _ (by decide +kernel)
      | 3, _ => exact hs _ (by decide +kernel)
      | 4, _ => exact hs _ (by decide +kernel)
      | 5, _ => exact hs _ (by decide +kernel)
      | j + 6, h => exact absurd (show j + 6 < 6 from h) (by omega)
    | 2, _ =>
      intro j hj
      match j, hj with
      | 0, _ => exact hs _ (by decide +kernel)
      | 1, _ => exact hs _ (by decide +kernel)
      | j + 2, h => exact absurd (show j + 2 < 2 from h) (by omega)
    | 3, _ =>
      intro j hj
      match j, hj with
      | 0, _ => exact hs _ (by decide +kernel)
      | 1, _ => exact hs _ (by decide +kernel)
      | 2, _ => exact hs _ (by decide +kernel)
      | 3, _ => exact hs _ (by decide +kernel)
      | j + 4, h => exact absurd (show j + 4 < 4 from h) (by omega)
    | 4, _ =>
      intro j hj
      match j, hj with
      | 0, _ => exact hs _ (by decide +kernel)
      | 1, _ => exact hs _ (by decide +kernel)
      | j + 2, h => exact absurd (show j + 2 < 2 from h) (by omega)
    | i + 5, h => exact absurd h (by omega)
  · intro i j hi hj hij
    have key : ∀ i j : Nat, i < j → j < 5 → (Cond.not (Cond.eq (Term.string (cln 12) (srI i)) (Term.string (cln 12) (srI j)))).before #[Value.ref b] s = true := by
      intro i j h1 h2
      match i, j, h1, h2 with
      | 0, 1, _, _ => exact hs _ (by decide +kernel)
      | 0, 2, _, _ => exact hs _ (by decide +kernel)
      | 0, 3, _, _ => exact hs _ (by decide +kernel)
      | 0, 4, _, _ => exact hs _ (by decide +kernel)
      | 1, 2, _, _ => exact hs _ (by decide +kernel)
      | 1, 3, _, _ => exact hs _ (by decide +kernel)
      | 1, 4, _, _ => exact hs _ (by decide +kernel)
      | 2, 3, _, _ => exact hs _ (by decide +kernel)
      | 2, 4, _, _ => exact hs _ (by decide +kernel)
      | 3, 4, _, _ => exact hs _ (by decide +kernel)
      | i, j + 5, _, h => exact absurd h (by omega)
      | i + 4, j, h, h2 => exact absurd h (by omega)
      | 0, 0, h, _ => exact absurd h (by omega)
      | 1, 0, h, _ => exact absurd h (by omega)
      | 1, 1, h, _ => exact absurd h (by omega)
      | 2, 0, h, _ => exact absurd h (by omega)
      | 2, 1, h, _ => exact absurd h (by omega)
      | 2, 2, h, _ => exact absurd h (by omega)
      | 3, 0, h, _ => exact absurd h (by omega)
      | 3, 1, h, _ => exact absurd h (by omega)
      | 3, 2, h, _ => exact absurd h (by omega)
      | 3, 3, h, _ => exact absurd h (by omega)
    rcases Nat.lt_or_gt_of_ne hij with h | h
    · exact Or.inl (key i j h hj)
    · exact Or.inr (key j i h hi)
set_option maxRecDepth 100000 in
set_option maxHeartbeats 8000000 in
theorem st_sa0 {s : State} {b : Nat} (hts : ∀ w ∈ lw_tbl, w.before #[Value.ref b] s = true) (hgv : (Jvm.Cond.and given_1 narrow_1).before #[Value.ref b] s = true) : ∃ t : Nat, va_Z "WallChapels$Plan" "RULE_WITHOUT" "[I" (.ref t) (fun q : Nat => s.heap.size ≤ q) s s.heap ∧ va_T .int t 2 (fun i => .int (cst 1005 i)) (fun q : Nat => s.heap.size ≤ q) s s.heap := by
  have hs := flat_of_before _ hgv
  have hA : ∀ a : Nat, a < s.heap.size → ¬ (fun q : Nat => s.heap.size ≤ q) a := fun a h => Nat.not_le.mpr h
  obtain ⟨t, ht, hT⟩ := va_Tof (args := #[Value.ref b]) (s := s) (tm := Term.static "WallChapels$Plan" "RULE_WITHOUT" "[I") (ty := .int) (N := 2) (f := fun i => .int (cst 1005 i)) (A := fun q : Nat => s.heap.size ≤ q) (by decide) (hs _ (by decide +kernel)) (va_eqt (hs _ (by decide +kernel)))
    (fun j hj => by
      match j, hj with
      | 0, _ => exact va_eqt (z := cst 1005 0) (hs _ (by decide +kernel))
      | 1, _ => exact va_eqt (z := cst 1005 1) (hs _ (by decide +kernel))
      | j + 2, h => exact absurd h (by omega)) hA
  exact ⟨t, va_Zof (hts (.laysStatic "WallChapels$Plan" "RULE_WITHOUT" "[I") (lwA_in (i := 580) (by decide +kernel))) (hts (.initialized "WallChapels$Plan") (lwA_in (i := 150) (by decide +kernel))) ht hA, hT⟩
set_option maxRecDepth 100000 in
set_option maxHeartbeats 8000000 in
theorem st_sa1 {s : State} {b : Nat} (hts : ∀ w ∈ lw_tbl, w.before #[Value.ref b] s = true) (hgv : (Jvm.Cond.and given_1 narrow_1).before #[Value.ref b] s = true) : ∃ t : Nat, va_Z "WallChapels$Plan" "RULE_LETTERS" "[C" (.ref t) (fun q : Nat => s.heap.size ≤ q) s s.heap ∧ va_T .char t 2 (fun i => .int (cst 1006 i)) (fun q : Nat => s.heap.size ≤ q) s s.heap := by
  have hs := flat_of_before _ hgv
  have hA : ∀ a : Nat, a < s.heap.size → ¬ (fun q : Nat => s.heap.size ≤ q) a := fun a h => Nat.not_le.mpr h
  obtain ⟨t, ht, hT⟩ := va_Tof (args := #[Value.ref b]) (s := s) (tm := Term.static "WallChapels$Plan" "RULE_LETTERS" "[C") (ty := .char) (N := 2) (f := fun i => .int (cst 1006 i)) (A := fun q : Nat => s.heap.size ≤ q) (by decide) (hs _ (by decide +kernel)) (va_eqt (hs _ (by decide +kernel)))
    (fun j hj => by
      match j, hj with
      | 0, _ => exact va_eqt (z := cst 1006 0) (hs _ (by decide +kernel))
      | 1, _ => exact va_eqt (z := cst 1006 1) (hs _ (by decide +kernel))
      | j + 2, h => exact absurd h (by omega)) hA
  exact ⟨t, va_Zof (hts (.laysStatic "WallChapels$Plan" "RULE_LETTERS" "[C") (lwA_in (i := 605) (by decide +kernel))) (hts (.initialized "WallChapels$Plan") (lwA_in (i := 150) (by decide +kernel))) ht hA, hT⟩
set_option maxRecDepth 100000 in
set_option maxHeartbeats 8000000 in
theorem st_sa2 {s : State} {b : Nat} (hts : ∀ w ∈ lw_tbl, w.before #[Value.ref b] s = true) (hgv : (Jvm.Cond.and given_1 narrow_1).before #[Value.ref b] s = true) : ∃ t : Nat, va_Z "WallChapels$Plan" "RULE_LEAST" "[I" (.ref t) (fun q : Nat => s.heap.size ≤ q) s s.heap ∧ va_T .int t 2 (fun i => .int (cst 1007 i)) (fun q : Nat => s.heap.size ≤ q) s s.heap := by
  have hs := flat_of_before _ hgv
  have hA : ∀ a : Nat, a < s.heap.size → ¬ (fun q : Nat => s.heap.size ≤ q) a := fun a h => Nat.not_le.mpr h
  obtain ⟨t, ht, hT⟩ := va_Tof (args := #[Value.ref b]) (s := s) (tm := Term.static "WallChapels$Plan" "RULE_LEAST" "[I") (ty := .int) (N := 2) (f := fun i => .int (cst 1007 i)) (A := fun q : Nat => s.heap.size ≤ q) (by decide) (hs _ (by decide +kernel)) (va_eqt (hs _ (by decide +kernel)))
    (fun j hj => by
      match j, hj with
      | 0, _ => exact va_eqt (z := cst 1007 0) (hs _ (by decide +kernel))
      | 1, _ => exact va_eqt (z := cst 1007 1) (hs _ (by decide +kernel))
      | j + 2, h => exact absurd h (by omega)) hA
  exact ⟨t, va_Zof (hts (.laysStatic "WallChapels$Plan" "RULE_LEAST" "[I") (lwA_in (i := 607) (by decide +kernel))) (hts (.initialized "WallChapels$Plan") (lwA_in (i := 150) (by decide +kernel))) ht hA, hT⟩
set_option maxRecDepth 100000 in
set_option maxHeartbeats 8000000 in
theorem st_sa3 {s : State} {b : Nat} (hts : ∀ w ∈ lw_tbl, w.before #[Value.ref b] s = true) (hgv : (Jvm.Cond.and given_1 narrow_1).before #[Value.ref b] s = true) : ∃ t : Nat, va_Z "WallChapels$Plan" "RULE_MOST" "[I" (.ref t) (fun q : Nat => s.heap.size ≤ q) s s.heap ∧ va_T .int t 2 (fun i => .int (cst 1008 i)) (fun q : Nat => s.heap.size ≤ q) s s.heap := by
  have hs := flat_of_before _ hgv
  have hA : ∀ a : Nat, a < s.heap.size → ¬ (fun q : Nat => s.heap.size ≤ q) a := fun a h => Nat.not_le.mpr h
  obtain ⟨t, ht, hT⟩ := va_Tof (args := #[Value.ref b]) (s := s) (tm := Term.static "WallChapels$Plan" "RULE_MOST" "[I") (ty := .int) (N := 2) (f := fun i => .int (cst 1008 i)) (A := fun q : Nat => s.heap.size ≤ q) (by decide) (hs _ (by decide +kernel)) (va_eqt (hs _ (by decide +kernel)))
    (fun j hj => by
      match j, hj with
      | 0, _ => exact va_eqt (z := cst 1008 0) (hs _ (by decide +kernel))
      | 1, _ => exact va_eqt (z := cst 1008 1) (hs _ (by decide +kernel))
      | j + 2, h => exact absurd h (by omega)) hA
  exact ⟨t, va_Zof (hts (.laysStatic "WallChapels$Plan" "RULE_MOST" "[I") (lwA_in (i := 609) (by decide +kernel))) (hts (.initialized "WallChapels$Plan") (lwA_in (i := 150) (by decide +kernel))) ht hA, hT⟩
set_option maxRecDepth 100000 in
set_option maxHeartbeats 8000000 in
theorem st_sa4 {s : State} {b : Nat} (hts : ∀ w ∈ lw_tbl, w.before #[Value.ref b] s = true) (hgv : (Jvm.Cond.and given_1 narrow_1).before #[Value.ref b] s = true) : ∃ t : Nat, va_Z "WallChapels$Plan" "STREET_WITHOUT" "[I" (.ref t) (fun q : Nat => s.heap.size ≤ q) s s.heap ∧ va_T .int t 4 (fun i => .int (cst 1009 i)) (fun q : Nat => s.heap.size ≤ q) s s.heap := by
  have hs := flat_of_before _ hgv
  have hA : ∀ a : Nat, a < s.heap.size → ¬ (fun q : Nat => s.heap.size ≤ q) a := fun a h => Nat.not_le.mpr h
  obtain ⟨t, ht, hT⟩ := va_Tof (args := #[Value.ref b]) (s := s) (tm := Term.static "WallChapels$Plan" "STREET_WITHOUT" "[I") (ty := .int) (N := 4) (f := fun i => .int (cst 1009 i)) (A := fun q : Nat => s.heap.size ≤ q) (by decide) (hs _ (by decide +kernel)) (va_eqt (hs _ (by decide +kernel)))
    (fun j hj => by
      match j, hj with
      | 0, _ => exact va_eqt (z := cst 1009 0) (hs _ (by decide +kernel))
      | 1, _ => exact va_eqt (z := cst 1009 1) (hs _ (by decide +kernel))
      | 2, _ => exact va_eqt (z := cst 1009 2) (hs _ (by decide +kernel))
      | 3, _ => exact va_eqt (z := cst 1009 3) (hs _ (by decide +kernel))
      | j + 4, h => exact absurd h (by omega)) hA
  exact ⟨t, va_Zof (hts (.laysStatic "WallChapels$Plan" "STREET_WITHOUT" "[I") (lwA_in (i := 629) (by decide +kernel))) (hts (.initialized "WallChapels$Plan") (lwA_in (i := 150) (by decide +kernel))) ht hA, hT⟩
set_option maxRecDepth 100000 in
set_option maxHeartbeats 8000000 in
theorem st_sa5 {s : State} {b : Nat} (hts : ∀ w ∈ lw_tbl, w.before #[Value.ref b] s = true) (hgv : (Jvm.Cond.and given_1 narrow_1).before #[Value.ref b] s = true) : ∃ t : Nat, va_Z "WallChapels$Plan" "STREET_LETTERS" "[C" (.ref t) (fun q : Nat => s.heap.size ≤ q) s s.heap ∧ va_T .char t 4 (fun i => .int (cst 1010 i)) (fun q : Nat => s.heap.size ≤ q) s s.heap := by
  have hs := flat_of_before _ hgv
  have hA : ∀ a : Nat, a < s.heap.size → ¬ (fun q : Nat => s.heap.size ≤ q) a := fun a h => Nat.not_le.mpr h
  obtain ⟨t, ht, hT⟩ := va_Tof (args := #[Value.ref b]) (s := s) (tm := Term.static "WallChapels$Plan" "STREET_LETTERS" "[C") (ty := .char) (N := 4) (f := fun i => .int (cst 1010 i)) (A := fun q : Nat => s.heap.size ≤ q) (by decide) (hs _ (by decide +kernel)) (va_eqt (hs _ (by decide +kernel)))
    (fun j hj => by
      match j, hj with
      | 0, _ => exact va_eqt (z := cst 1010 0) (hs _ (by decide +kernel))
      | 1, _ => exact va_eqt (z := cst 1010 1) (hs _ (by decide +kernel))
      | 2, _ => exact va_eqt (z := cst 1010 2) (hs _ (by decide +kernel))
      | 3, _ => exact va_eqt (z := cst 1010 3) (hs _ (by decide +kernel))
      | j + 4, h => exact absurd h (by omega)) hA
  exact ⟨t, va_Zof (hts (.laysStatic "WallChapels$Plan" "STREET_LETTERS" "[C") (lwA_in (i := 631) (by decide +kernel))) (hts (.initialized "WallChapels$Plan") (lwA_in (i := 150) (by decide +kernel))) ht hA, hT⟩
set_option maxRecDepth 100000 in
set_option maxHeartbeats 8000000 in
theorem st_sa6 {s : State} {b : Nat} (hts : ∀ w ∈ lw_tbl, w.before #[Value.ref b] s = true) (hgv : (Jvm.Cond.and given_1 narrow_1).before #[Value.ref b] s = true) : ∃ t : Nat, va_Z "WallChapels$Plan" "STREET_LEAST" "[I" (.ref t) (fun q : Nat => s.heap.size ≤ q) s s.heap ∧ va_T .int t 4 (fun i => .int (cst 1011 i)) (fun q : Nat => s.heap.size ≤ q) s s.heap := by
  have hs := flat_of_before _ hgv
  have hA : ∀ a : Nat, a < s.heap.size → ¬ (fun q : Nat => s.heap.size ≤ q) a := fun a h => Nat.not_le.mpr h
  obtain ⟨t, ht, hT⟩ := va_Tof (args := #[Value.ref b]) (s := s) (tm := Term.static "WallChapels$Plan" "STREET_LEAST" "[I") (ty := .int) (N := 4) (f := fun i => .int (cst 1011 i)) (A := fun q : Nat => s.heap.size ≤ q) (by decide) (hs _ (by decide +kernel)) (va_eqt (hs _ (by decide +kernel)))
    (fun j hj => by
      match j, hj with
      | 0, _ => exact va_eqt (z := cst 1011 0) (hs _ (by decide +kernel))
      | 1, _ => exact va_eqt (z := cst 1011 1) (hs _ (by decide +kernel))
      | 2, _ => exact va_eqt (z := cst 1011 2) (hs _ (by decide +kernel))
      | 3, _ => exact va_eqt (z := cst 1011 3) (hs _ (by decide +kernel))
      | j + 4, h => exact absurd h (by omega)) hA
  exact ⟨t, va_Zof (hts (.laysStatic "WallChapels$Plan" "STREET_LEAST" "[I") (lwA_in (i := 633) (by decide +kernel))) (hts (.initialized "WallChapels$Plan") (lwA_in (i := 150) (by decide +kernel))) ht hA, hT⟩
set_option maxRecDepth 100000 in
set_option maxHeartbeats 8000000 in
theorem st_sa7 {s : State} {b : Nat} (hts : ∀ w ∈ lw_tbl, w.before #[Value.ref b] s = true) (hgv : (Jvm.Cond.and given_1 narrow_1).before #[Value.ref b] s = true) : ∃ t : Nat, va_Z "WallChapels$Plan" "STREET_MOST" "[I" (.ref t) (fun q : Nat => s.heap.size ≤ q) s s.heap ∧ va_T .int t 4 (fun i => .int (cst 1012 i)) (fun q : Nat => s.heap.size ≤ q) s s.heap := by
  have hs := flat_of_before _ hgv
  have hA : ∀ a : Nat, a < s.heap.size → ¬ (fun q : Nat => s.heap.size ≤ q) a := fun a h => Nat.not_le.mpr h
  obtain ⟨t, ht, hT⟩ := va_Tof (args := #[Value.ref b]) (s := s) (tm := Term.static "WallChapels$Plan" "STREET_MOST" "[I") (ty := .int) (N := 4) (f := fun i => .int (cst 1012 i)) (A := fun q : Nat => s.heap.size ≤ q) (by decide) (hs _ (by decide +kernel)) (va_eqt (hs _ (by decide +kernel)))
    (fun j hj => by
      match j, hj with
      | 0, _ => exact va_eqt (z := cst 1012 0) (hs _ (by decide +kernel))
      | 1, _ => exact va_eqt (z := cst 1012 1) (hs _ (by decide +kernel))
      | 2, _ => exact va_eqt (z := cst 1012 2) (hs _ (by decide +kernel))
      | 3, _ => exact va_eqt (z := cst 1012 3) (hs _ (by decide +kernel))
      | j + 4, h => exact absurd h (by omega)) hA
  exact ⟨t, va_Zof (hts (.laysStatic "WallChapels$Plan" "STREET_MOST" "[I") (lwA_in (i := 635) (by decide +kernel))) (hts (.initialized "WallChapels$Plan") (lwA_in (i := 150) (by decide +kernel))) ht hA, hT⟩
set_option maxRecDepth 100000 in
set_option maxHeartbeats 8000000 in
theorem st_sa8 {s : State} {b : Nat} (hts : ∀ w ∈ lw_tbl, w.before #[Value.ref b] s = true) (hgv : (Jvm.Cond.and given_1 narrow_1).before #[Value.ref b] s = true) : ∃ t : Nat, va_Z "WallChapels$Plan" "WALKER_WITHOUT" "[I" (.ref t) (fun q : Nat => s.heap.size ≤ q) s s.heap ∧ va_T .int t 2 (fun i => .int (cst 1013 i)) (fun q : Nat => s.heap.size ≤ q) s s.heap := by
  have hs := flat_of_before _ hgv
  have hA : ∀ a : Nat, a < s.heap.size → ¬ (fun q : Nat => s.heap.size ≤ q) a := fun a h => Nat.not_le.mpr h
  obtain ⟨t, ht, hT⟩ := va_Tof (args := #[Value.ref b]) (s := s) (tm := Term.static "WallChapels$Plan" "WALKER_WITHOUT" "[I") (ty := .int) (N := 2) (f := fun i => .int (cst 1013 i)) (A := fun q : Nat => s.heap.size ≤ q) (by decide) (hs _ (by decide +kernel)) (va_eqt (hs _ (by decide +kernel)))
    (fun j hj => by
      match j, hj with
      | 0, _ => exact va_eqt (z := cst 1013 0) (hs _ (by decide +kernel))
      | 1, _ => exact va_eqt (z := cst 1013 1) (hs _ (by decide +kernel))
      | j + 2, h => exact absurd h (by omega)) hA
  exact ⟨t, va_Zof (hts (.laysStatic "WallChapels$Plan" "WALKER_WITHOUT" "[I") (lwA_in (i := 637) (by decide +kernel))) (hts (.initialized "WallChapels$Plan") (lwA_in (i := 150) (by decide +kernel))) ht hA, hT⟩
set_option maxRecDepth 100000 in
set_option maxHeartbeats 8000000 in
theorem st_sa9 {s : State} {b : Nat} (hts : ∀ w ∈ lw_tbl, w.before #[Value.ref b] s = true) (hgv : (Jvm.Cond.and given_1 narrow_1).before #[Value.ref b] s = true) : ∃ t : Nat, va_Z "WallChapels$Plan" "WALKER_LETTERS" "[C" (.ref t) (fun q : Nat => s.heap.size ≤ q) s s.heap ∧ va_T .char t 2 (fun i => .int (cst 1014 i)) (fun q : Nat => s.heap.size ≤ q) s s.heap := by
  have hs := flat_of_before _ hgv
  have hA : ∀ a : Nat, a < s.heap.size → ¬ (fun q : Nat => s.heap.size ≤ q) a := fun a h => Nat.not_le.mpr h
  obtain ⟨t, ht, hT⟩ := va_Tof (args := #[Value.ref b]) (s := s) (tm := Term.static "WallChapels$Plan" "WALKER_LETTERS" "[C") (ty := .char) (N := 2) (f := fun i => .int (cst 1014 i)) (A := fun q : Nat => s.heap.size ≤ q) (by decide) (hs _ (by decide +kernel)) (va_eqt (hs _ (by decide +kernel)))
    (fun j hj => by
      match j, hj with
      | 0, _ => exact va_eqt (z := cst 1014 0) (hs _ (by decide +kernel))
      | 1, _ => exact va_eqt (z := cst 1014 1) (hs _ (by decide +kernel))
      | j + 2, h => exact absurd h (by omega)) hA
  exact ⟨t, va_Zof (hts (.laysStatic "WallChapels$Plan" "WALKER_LETTERS" "[C") (lwA_in (i := 639) (by decide +kernel))) (hts (.initialized "WallChapels$Plan") (lwA_in (i := 150) (by decide +kernel))) ht hA, hT⟩
set_option maxRecDepth 100000 in
set_option maxHeartbeats 8000000 in
theorem st_sa10 {s : State} {b : Nat} (hts : ∀ w ∈ lw_tbl, w.before #[Value.ref b] s = true) (hgv : (Jvm.Cond.and given_1 narrow_1).before #[Value.ref b] s = true) : ∃ t : Nat, va_Z "WallChapels$Plan" "WALKER_LEAST" "[I" (.ref t) (fun q : Nat => s.heap.size ≤ q) s s.heap ∧ va_T .int t 2 (fun i => .int (cst 1015 i)) (fun q : Nat => s.heap.size ≤ q) s s.heap := by
  have hs := flat_of_before _ hgv
  have hA : ∀ a : Nat, a < s.heap.size → ¬ (fun q : Nat => s.heap.size ≤ q) a := fun a h => Nat.not_le.mpr h
  obtain ⟨t, ht, hT⟩ := va_Tof (args := #[Value.ref b]) (s := s) (tm := Term.static "WallChapels$Plan" "WALKER_LEAST" "[I") (ty := .int) (N := 2) (f := fun i => .int (cst 1015 i)) (A := fun q : Nat => s.heap.size ≤ q) (by decide) (hs _ (by decide +kernel)) (va_eqt (hs _ (by decide +kernel)))
    (fun j hj => by
      match j, hj with
      | 0, _ => exact va_eqt (z := cst 1015 0) (hs _ (by decide +kernel))
      | 1, _ => exact va_eqt (z := cst 1015 1) (hs _ (by decide +kernel))
      | j + 2, h => exact absurd h (by omega)) hA
  exact ⟨t, va_Zof (hts (.laysStatic "WallChapels$Plan" "WALKER_LEAST" "[I") (lwA_in (i := 641) (by decide +kernel))) (hts (.initialized "WallChapels$Plan") (lwA_in (i := 150) (by decide +kernel))) ht hA, hT⟩
set_option maxRecDepth 100000 in
set_option maxHeartbeats 8000000 in
theorem st_sa11 {s : State} {b : Nat} (hts : ∀ w ∈ lw_tbl, w.before #[Value.ref b] s = true) (hgv : (Jvm.Cond.and given_1 narrow_1).before #[Value.ref b] s = true) : ∃ t : Nat, va_Z "WallChapels$Plan" "WALKER_MOST" "[I" (.ref t) (fun q : Nat => s.heap.size ≤ q) s s.heap ∧ va_T .int t 2 (fun i => .int (cst 1016 i)) (fun q : Nat => s.heap.size ≤ q) s s.heap := by
  have hs := flat_of_before _ hgv
  have hA : ∀ a : Nat, a < s.heap.size → ¬ (fun q : Nat => s.heap.size ≤ q) a := fun a h => Nat.not_le.mpr h
  obtain ⟨t, ht, hT⟩ := va_Tof (args := #[Value.ref b]) (s := s) (tm := Term.static "WallChapels$Plan" "WALKER_MOST" "[I") (ty := .int) (N := 2) (f := fun i => .int (cst 1016 i)) (A := fun q : Nat => s.heap.size ≤ q) (by decide) (hs _ (by decide +kernel)) (va_eqt (hs _ (by decide +kernel)))
    (fun j hj => by
      match j, hj with
      | 0, _ => exact va_eqt (z := cst 1016 0) (hs _ (by decide +kernel))
      | 1, _ => exact va_eqt (z := cst 1016 1) (hs _ (by decide +kernel))
      | j + 2, h => exact absurd h (by omega)) hA
  exact ⟨t, va_Zof (hts (.laysStatic "WallChapels$Plan" "WALKER_MOST" "[I") (lwA_in (i := 643) (by decide +kernel))) (hts (.initialized "WallChapels$Plan") (lwA_in (i := 150) (by decide +kernel))) ht hA, hT⟩
set_option maxRecDepth 100000 in
set_option maxHeartbeats 8000000 in
/-- what the Statement gives of the start, at addresses q -/
theorem st_xE {s : State} {b : Nat} (hts : ∀ w ∈ lw_tbl, w.before #[Value.ref b] s = true) (hgv : (Jvm.Cond.and given_1 narrow_1).before #[Value.ref b] s = true) : ∃ q sv : Nat → Nat, xE q sv (fun a : Nat => s.heap.size ≤ a) s s.heap := by
  have hs := flat_of_before _ hgv
  have hA : ∀ a : Nat, a < s.heap.size → ¬ (fun q : Nat => s.heap.size ≤ q) a := fun a h => Nat.not_le.mpr h
  obtain ⟨sk, sv, hS, hS2⟩ := st_sof hgv
  obtain ⟨t0, z0, w0⟩ := st_sa0 hts hgv
  obtain ⟨t1, z1, w1⟩ := st_sa1 hts hgv
  obtain ⟨t2, z2, w2⟩ := st_sa2 hts hgv
  obtain ⟨t3, z3, w3⟩ := st_sa3 hts hgv
  obtain ⟨t4, z4, w4⟩ := st_sa4 hts hgv
  obtain ⟨t5, z5, w5⟩ := st_sa5 hts hgv
  obtain ⟨t6, z6, w6⟩ := st_sa6 hts hgv
  obtain ⟨t7, z7, w7⟩ := st_sa7 hts hgv
  obtain ⟨t8, z8, w8⟩ := st_sa8 hts hgv
  obtain ⟨t9, z9, w9⟩ := st_sa9 hts hgv
  obtain ⟨t10, z10, w10⟩ := st_sa10 hts hgv
  obtain ⟨t11, z11, w11⟩ := st_sa11 hts hgv
  refine ⟨fun k => if k < 1005 then sk (k - 1000) else match k - 1005 with
    | 0 => t0
    | 1 => t1
    | 2 => t2
    | 3 => t3
    | 4 => t4
    | 5 => t5
    | 6 => t6
    | 7 => t7
    | 8 => t8
    | 9 => t9
    | 10 => t10
    | 11 => t11
    | _ => 0, sv, ?_, va_Zof (hts (.laysStatic "java/lang/String" "COMPACT_STRINGS" "Z") (lwA_in (i := 1509) (by decide +kernel))) (hts (.initialized "java/lang/String") (lwA_in (i := 162) (by decide +kernel))) (va_eqi (hs _ (by decide +kernel))) hA, va_Zqof (hts (.laysStatic "jdk/internal/util/Preconditions" "SIOOBE_FORMATTER" "Ljava/util/function/BiFunction;") (lwA_in (i := 1531) (by decide +kernel))) (hts (.initialized "jdk/internal/util/Preconditions") (lwA_in (i := 164) (by decide +kernel))) (hs _ (by decide +kernel)) hA, ?_, ?_⟩
  · refine ⟨fun i hi => ?_, fun i j hi hj e2 => ?_⟩
    · have h1 := hS.1 i hi
      simp only [show 1000 + i < 1005 by omega, if_true, Nat.add_sub_cancel_left]
      exact h1
    · simp only [show 1000 + i < 1005 by omega, show 1000 + j < 1005 by omega, if_true, Nat.add_sub_cancel_left] at e2
      exact hS.2 i j hi hj e2
  · intro j hj
    match j, hj with
    | 0, _ => exact ⟨z0, w0⟩
    | 1, _ => exact ⟨z1, w1⟩
    | 2, _ => exact ⟨z2, w2⟩
    | 3, _ => exact ⟨z3, w3⟩
    | 4, _ => exact ⟨z4, w4⟩
    | 5, _ => exact ⟨z5, w5⟩
    | 6, _ => exact ⟨z6, w6⟩
    | 7, _ => exact ⟨z7, w7⟩
    | 8, _ => exact ⟨z8, w8⟩
    | 9, _ => exact ⟨z9, w9⟩
    | 10, _ => exact ⟨z10, w10⟩
    | 11, _ => exact ⟨z11, w11⟩
    | j + 12, h => exact absurd h (by omega)
  · intro i hi
    match i, hi with
    | 0, _ => exact vk_R.of (hts (.stringRef "WallChapelsModel" 26 "y") (lwA_in (i := 1286) (by decide +kernel))) (hS2 0 (by decide))
    | 1, _ => exact vk_R.of (hts (.stringRef "WallChapelsModel" 32 "ywflcd") (lwA_in (i := 1287) (by decide +kernel))) (hS2 1 (by decide))
    | 2, _ => exact vk_R.of (hts (.stringRef "WallChapelsModel" 245 "nk") (lwA_in (i := 1495) (by decide +kernel))) (hS2 2 (by decide))
    | 3, _ => exact vk_R.of (hts (.stringRef "WallChapelsModel" 251 "abyw") (lwA_in (i := 1575) (by decide +kernel))) (hS2 3 (by decide))
    | 4, _ => exact vk_R.of (hts (.stringRef "WallChapelsModel" 253 "hf") (lwA_in (i := 1576) (by decide +kernel))) (hS2 4 (by decide))
    | i + 5, h => exact absurd h (by omega)
