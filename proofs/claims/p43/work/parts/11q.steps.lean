/-! L2: steps of the small machine, for proofs by hand -/
section STEPS
variable {k n pc : Nat} {ca : Nat → List Value → xM → (Option Value → xM → Prop) → Prop} {Q : Option Value → xM → Prop} {l : List (Nat × Value)} {st : List Value} {m : xM}
theorem sx {i : Instr} (hc : lkc pc (kcode k) = some i) (h : xi k ca (xe k ca Q n) Q i pc l st m) : xe k ca Q (n + 1) pc l st m := by
  show (match lkc pc (kcode k) with
    | some i => xi k ca (xe k ca Q n) Q i pc l st m
    | none => False)
  rw [hc]
  exact h
theorem s_con {c} (hc : lkc pc (kcode k) = some (.iconst c)) (h : xe k ca Q n (pc + 1) l (.int (Int32.ofInt c) :: st) m) : xe k ca Q (n + 1) pc l st m := sx hc h
theorem s_bip {c} (hc : lkc pc (kcode k) = some (.bipush c)) (h : xe k ca Q n (pc + 2) l (.int (Int8.ofInt c).toInt32 :: st) m) : xe k ca Q (n + 1) pc l st m := sx hc h
theorem s_sip {c} (hc : lkc pc (kcode k) = some (.sipush c)) (h : xe k ca Q n (pc + 3) l (.int (Int16.ofInt c).toInt32 :: st) m) : xe k ca Q (n + 1) pc l st m := sx hc h
theorem s_ild {j} {x : Int32} (hc : lkc pc (kcode k) = some (.iload_n j)) (hl : lkl (j : Nat) l = some (.int x)) (h : xe k ca Q n (pc + 1) l (.int x :: st) m) : xe k ca Q (n + 1) pc l st m := sx hc (by
  simp only [xi]
  rw [hl]
  exact h)
theorem s_ild2 {j} {x : Int32} (hc : lkc pc (kcode k) = some (.iload j)) (hl : lkl j l = some (.int x)) (h : xe k ca Q n (pc + 2) l (.int x :: st) m) : xe k ca Q (n + 1) pc l st m := sx hc (by
  simp only [xi]
  rw [hl]
  exact h)
theorem s_ald {j} {b : Nat} (hc : lkc pc (kcode k) = some (.aload_n j)) (hl : lkl (j : Nat) l = some (.ref b)) (h : xe k ca Q n (pc + 1) l (.ref b :: st) m) : xe k ca Q (n + 1) pc l st m := sx hc (by
  simp only [xi]
  rw [hl]
  exact h)
theorem s_ist {j} {x : Int32} (hc : lkc pc (kcode k) = some (.istore_n j)) (hj : (j : Nat) < knl k) (h : xe k ca Q n (pc + 1) (sv1 (j : Nat) (.int x) l) st m) : xe k ca Q (n + 1) pc l (.int x :: st) m := sx hc ⟨hj, h⟩
theorem s_ist2 {j} {x : Int32} (hc : lkc pc (kcode k) = some (.istore j)) (hj : j < knl k) (h : xe k ca Q n (pc + 2) (sv1 j (.int x) l) st m) : xe k ca Q (n + 1) pc l (.int x :: st) m := sx hc ⟨hj, h⟩
theorem s_inc {j} {d : Int} {x : Int32} (hc : lkc pc (kcode k) = some (.iinc j d)) (hj : j < knl k) (hl : lkl j l = some (.int x)) (h : xe k ca Q n (pc + 3) (sv1 j (.int (x + Int32.ofInt d)) l) st m) : xe k ca Q (n + 1) pc l st m := sx hc (by
  simp only [xi]
  rw [hl]
  exact ⟨hj, h⟩)
theorem s_add {x y : Int32} (hc : lkc pc (kcode k) = some .iadd) (h : xe k ca Q n (pc + 1) l (.int (x + y) :: st) m) : xe k ca Q (n + 1) pc l (.int y :: .int x :: st) m := sx hc h
theorem s_sub {x y : Int32} (hc : lkc pc (kcode k) = some .isub) (h : xe k ca Q n (pc + 1) l (.int (x - y) :: st) m) : xe k ca Q (n + 1) pc l (.int y :: .int x :: st) m := sx hc h
theorem s_mul {x y : Int32} (hc : lkc pc (kcode k) = some .imul) (h : xe k ca Q n (pc + 1) l (.int (x * y) :: st) m) : xe k ca Q (n + 1) pc l (.int y :: .int x :: st) m := sx hc h
theorem s_and {x y : Int32} (hc : lkc pc (kcode k) = some .iand) (h : xe k ca Q n (pc + 1) l (.int (x &&& y) :: st) m) : xe k ca Q (n + 1) pc l (.int y :: .int x :: st) m := sx hc h
theorem s_or {x y : Int32} (hc : lkc pc (kcode k) = some .ior) (h : xe k ca Q n (pc + 1) l (.int (x ||| y) :: st) m) : xe k ca Q (n + 1) pc l (.int y :: .int x :: st) m := sx hc h
theorem s_shr {x y : Int32} (hc : lkc pc (kcode k) = some .ishr) (h : xe k ca Q n (pc + 1) l (.int (x >>> (y &&& 31)) :: st) m) : xe k ca Q (n + 1) pc l (.int y :: .int x :: st) m := sx hc h
theorem s_shl {x y : Int32} (hc : lkc pc (kcode k) = some .ishl) (h : xe k ca Q n (pc + 1) l (.int (x <<< (y &&& 31)) :: st) m) : xe k ca Q (n + 1) pc l (.int y :: .int x :: st) m := sx hc h
theorem s_i2b {x : Int32} (hc : lkc pc (kcode k) = some .i2b) (h : xe k ca Q n (pc + 1) l (.int x.toInt8.toInt32 :: st) m) : xe k ca Q (n + 1) pc l (.int x :: st) m := sx hc h
theorem s_dup {b : Nat} (hc : lkc pc (kcode k) = some .dup) (h : xe k ca Q n (pc + 1) l (.ref b :: .ref b :: st) m) : xe k ca Q (n + 1) pc l (.ref b :: st) m := sx hc ⟨rfl, h⟩
theorem s_goto {o : Int} (hc : lkc pc (kcode k) = some (.goto o)) (h : xe k ca Q n (tgt pc o) l st m) : xe k ca Q (n + 1) pc l st m := sx hc h
theorem s_gfI {i ci f : Nat} {a : Nat} (hc : lkc pc (kcode k) = some (.getfield i)) (hf : kFd (kcl k) i = some (ci, f)) (hk : fk ci f = 0 ∨ fk ci f = 1) (hy : lay a = (3, ci, kNf ci)) (h : xe k ca Q n (pc + 3) l (.int (m.1 a f) :: st) m) : xe k ca Q (n + 1) pc l (.ref a :: st) m := sx hc (by
  simp only [xi, pR, hf]
  refine ⟨hy, ?_⟩
  have e : fvl m a ci f = .int (m.1 a f) := by
    unfold fvl
    rcases hk with hk | hk <;> (rw [hk]; rfl)
  rw [e]
  exact h)
theorem s_gfR {i ci f : Nat} {a b : Nat} (hc : lkc pc (kcode k) = some (.getfield i)) (hf : kFd (kcl k) i = some (ci, f)) (hk : fk ci f = 3) (hy : lay a = (3, ci, kNf ci)) (hb : m.2.2 a f = some b) (h : xe k ca Q n (pc + 3) l (.ref b :: st) m) : xe k ca Q (n + 1) pc l (.ref a :: st) m := sx hc (by
  simp only [xi, pR, hf]
  refine ⟨hy, ?_⟩
  have e : fvl m a ci f = .ref b := by
    unfold fvl
    rw [hk]
    show rvl (m.2.2 a f) = _
    rw [hb]
    rfl
  rw [e]
  exact h)
theorem s_pfI {i ci f : Nat} {a : Nat} {x : Int32} (hc : lkc pc (kcode k) = some (.putfield i)) (hf : kFd (kcl k) i = some (ci, f)) (hk : fk ci f = 0) (hn : fn ci f = false) (hy : lay a = (3, ci, kNf ci)) (h : xe k ca Q n (pc + 3) l st (mI m a f x)) : xe k ca Q (n + 1) pc l (.int x :: .ref a :: st) m := sx hc (by
  simp only [xi, pR, pI, hf]
  refine ⟨hn, ?_⟩
  rw [hk]
  exact ⟨hy, h⟩)
theorem s_pfZ {i ci f : Nat} {a : Nat} {x : Int32} (hc : lkc pc (kcode k) = some (.putfield i)) (hf : kFd (kcl k) i = some (ci, f)) (hk : fk ci f = 1) (hn : fn ci f = false) (hx : x = 0 ∨ x = 1) (hy : lay a = (3, ci, kNf ci)) (h : xe k ca Q n (pc + 3) l st (mI m a f x)) : xe k ca Q (n + 1) pc l (.int x :: .ref a :: st) m := sx hc (by
  simp only [xi, pR, pI, hf]
  refine ⟨hn, ?_⟩
  rw [hk]
  exact ⟨hx, hy, h⟩)
theorem s_pfR {i ci f : Nat} {a b : Nat} (hc : lkc pc (kcode k) = some (.putfield i)) (hf : kFd (kcl k) i = some (ci, f)) (hk : fk ci f = 3) (hn : fn ci f = false) (hy : lay a = (3, ci, kNf ci)) (h : xe k ca Q n (pc + 3) l st (mR m a f (some b))) : xe k ca Q (n + 1) pc l (.ref b :: .ref a :: st) m := sx hc (by
  simp only [xi, pR, pI, hf]
  refine ⟨hn, ?_⟩
  rw [hk]
  exact ⟨hy, h⟩)
theorem s_ial {a N : Nat} {x : Int32} (hc : lkc pc (kcode k) = some .iaload) (hy : lay a = (0, 0, N)) (hv : vp_in x N) (h : xe k ca Q n (pc + 1) l (.int (m.1 a x.toNatClampNeg) :: st) m) : xe k ca Q (n + 1) pc l (.int x :: .ref a :: st) m := sx hc (by
  simp only [xi, pR, pI, hy]
  exact ⟨hv, h⟩)
theorem s_bal {a N : Nat} {x : Int32} (hc : lkc pc (kcode k) = some .baload) (hy : lay a = (0, 1, N)) (hv : vp_in x N) (h : xe k ca Q n (pc + 1) l (.int (m.1 a x.toNatClampNeg) :: st) m) : xe k ca Q (n + 1) pc l (.int x :: .ref a :: st) m := sx hc (by
  simp only [xi, pR, pI, hy]
  exact ⟨hv, h⟩)
theorem s_ias {a N : Nat} {x v : Int32} (hc : lkc pc (kcode k) = some .iastore) (hy : lay a = (0, 0, N)) (hv : vp_in x N) (h : xe k ca Q n (pc + 1) l st (mI m a x.toNatClampNeg v)) : xe k ca Q (n + 1) pc l (.int v :: .int x :: .ref a :: st) m := sx hc (by
  simp only [xi, pR, pI, hy]
  exact ⟨hv, h⟩)
theorem s_bas {a N : Nat} {x v : Int32} (hc : lkc pc (kcode k) = some .bastore) (hy : lay a = (0, 1, N)) (hv : vp_in x N) (h : xe k ca Q n (pc + 1) l st (mI m a x.toNatClampNeg (vp_nar .byte v))) : xe k ca Q (n + 1) pc l (.int v :: .int x :: .ref a :: st) m := sx hc (by
  simp only [xi, pR, pI, hy]
  exact ⟨hv, h⟩)
/-- the condition of a branch, in numbers -/
def cnB : Jvm.ClassFile.Cond → Int → Int → Prop
  | .eq, x, y => x = y
  | .ne, x, y => ¬ x = y
  | .lt, x, y => x < y
  | .ge, x, y => y ≤ x
  | .gt, x, y => y < x
  | .le, x, y => x ≤ y
theorem s_icm {cc : Jvm.ClassFile.Cond} {o : Int} {x y : Int32} (hc : lkc pc (kcode k) = some (.if_icmp cc o)) (h1 : cnB cc x.toInt y.toInt → xe k ca Q n (tgt pc o) l st m) (h2 : ¬ cnB cc x.toInt y.toInt → xe k ca Q n (pc + 3) l st m) : xe k ca Q (n + 1) pc l (.int y :: .int x :: st) m := sx hc (by
  cases cc
  · exact ⟨fun h => h1 (by show x.toInt = y.toInt; rw [h]), fun h => h2 (fun z => h (Int32.toInt_inj.mp z))⟩
  · exact ⟨fun h => h1 (fun z => h (Int32.toInt_inj.mp z)), fun h => h2 (fun z => z (by rw [h]))⟩
  · exact ⟨fun h => h1 ((fa_lt _ _).mp h), fun h => h2 (fun z => h ((fa_lt _ _).mpr z))⟩
  · exact ⟨fun h => h1 ((fa_le _ _).mp h), fun h => h2 (fun z => h ((fa_le _ _).mpr z))⟩
  · exact ⟨fun h => h1 ((fa_lt _ _).mp h), fun h => h2 (fun z => h ((fa_lt _ _).mpr z))⟩
  · exact ⟨fun h => h1 ((fa_le _ _).mp h), fun h => h2 (fun z => h ((fa_le _ _).mpr z))⟩)
theorem s_if {cc : Jvm.ClassFile.Cond} {o : Int} {x : Int32} (hc : lkc pc (kcode k) = some (.ifCond cc o)) (h1 : cnB cc x.toInt 0 → xe k ca Q n (tgt pc o) l st m) (h2 : ¬ cnB cc x.toInt 0 → xe k ca Q n (pc + 3) l st m) : xe k ca Q (n + 1) pc l (.int x :: st) m := sx hc (by
  have e0 : (0 : Int32).toInt = 0 := by decide
  cases cc
  · exact ⟨fun h => h1 (by show x.toInt = 0; rw [h]; exact e0), fun h => h2 (fun z => h (Int32.toInt_inj.mp (z.trans e0.symm)))⟩
  · exact ⟨fun h => h1 (fun z => h (Int32.toInt_inj.mp (Eq.trans z e0.symm))), fun h => h2 (fun z => z (by rw [h]; exact e0))⟩
  · exact ⟨fun h => h1 (e0 ▸ (fa_lt _ _).mp h), fun h => h2 (fun z => h ((fa_lt _ _).mpr (e0.symm ▸ z)))⟩
  · exact ⟨fun h => h1 (e0 ▸ (fa_le _ _).mp h), fun h => h2 (fun z => h ((fa_le _ _).mpr (e0.symm ▸ z)))⟩
  · exact ⟨fun h => h1 (e0 ▸ (fa_lt _ _).mp h), fun h => h2 (fun z => h ((fa_lt _ _).mpr (e0.symm ▸ z)))⟩
  · exact ⟨fun h => h1 (e0 ▸ (fa_le _ _).mp h), fun h => h2 (fun z => h ((fa_le _ _).mpr (e0.symm ▸ z)))⟩)
theorem s_iv {i j : Nat} {as r : List Value} {a : Nat} (hc : lkc pc (kcode k) = some (.invokevirtual i)) (hj : kCl (kcl k) i = some (1, j)) (hp : pops (knp j) st = some (as, .ref a :: r)) (hy : lay a = (3, kcl j, kNf (kcl j))) (hr : (r.map fun v => v.category).sum ≤ 8) (h1 : kmc j = 0) (h2 : kms j = 0) (h : ca j (.ref a :: as) m (fun rv m' => xe k ca Q n (pc + 3) l (rv.toList ++ r) m')) : xe k ca Q (n + 1) pc l st m := sx hc (by
  simp only [xi, hj, hp]
  exact ⟨hy, hr, h1, h2, h⟩)
theorem s_is {i j : Nat} {as r : List Value} (hc : lkc pc (kcode k) = some (.invokestatic i)) (hj : kCl (kcl k) i = some (2, j)) (hp : pops (knp j) st = some (as, r)) (hr : (r.map fun v => v.category).sum ≤ 8) (h1 : kmc j = 0) (h2 : kms j = 0) (h : ca j as m (fun rv m' => xe k ca Q n (pc + 3) l (rv.toList ++ r) m')) : xe k ca Q (n + 1) pc l st m := sx hc (by
  simp only [xi, hj, hp]
  exact ⟨hr, h1, h2, h⟩)
theorem s_ret {x : Int32} (hc : lkc pc (kcode k) = some .ireturn) (hr : kr k = 1 ∨ (kr k = 2 ∧ (x = 0 ∨ x = 1))) (h : Q (some (.int x)) m) : xe k ca Q (n + 1) pc l [.int x] m := sx hc ⟨rfl, hr, h⟩
theorem s_rv (hc : lkc pc (kcode k) = some .return_) (hr : kr k = 0) (h : Q none m) : xe k ca Q (n + 1) pc l [] m := sx hc ⟨rfl, hr, h⟩
end STEPS
