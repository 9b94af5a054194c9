/-! L1: a small machine over the layout of the cells: what a method does, in words of numbers (a weakest precondition); no heap, no frames -/
abbrev xM : Type := (Nat → Nat → Int32) × (Nat → Nat → Int64) × (Nat → Nat → Option Nat)
def u2 {α : Type} (f : Nat → Nat → α) (k i : Nat) (v : α) : Nat → Nat → α := fun a b => if a = k then (if b = i then v else f a b) else f a b
def mI (m : xM) (k i : Nat) (v : Int32) : xM := (u2 m.1 k i v, m.2)
def mJ (m : xM) (k i : Nat) (v : Int64) : xM := (m.1, u2 m.2.1 k i v, m.2.2)
def mR (m : xM) (k i : Nat) (v : Option Nat) : xM := (m.1, m.2.1, u2 m.2.2 k i v)
/-- a whole row of ints anew -/
def mC (m : xM) (k : Nat) (f : Nat → Int32) : xM := (fun a => if a = k then f else m.1 a, m.2)
noncomputable def lkc (pc : Nat) (l : List (Nat × Instr)) : Option Instr := List.rec (motive := fun _ => Option Instr) none (fun q _ ih => bif Nat.beq q.1 pc then some q.2 else ih) l
def lkl (i : Nat) : List (Nat × Value) → Option Value
  | [] => none
  | (j, v) :: t => bif Nat.beq j i then some v else lkl i t
def sv1 (i : Nat) (v : Value) (l : List (Nat × Value)) : List (Nat × Value) := (i, v) :: l.filter (fun q => !(q.1 == i) && !(q.1 + 1 == i && q.2.category == 2))
def sv2 (i : Nat) (v : Value) (l : List (Nat × Value)) : List (Nat × Value) := (i, v) :: l.filter (fun q => !(q.1 == i) && (!(q.1 == i + 1) && !(q.1 + 1 == i && q.2.category == 2)))
def pI (st : List Value) (f : Int32 → List Value → Prop) : Prop := match st with
  | .int x :: r => f x r
  | _ => False
def pL (st : List Value) (f : Int64 → List Value → Prop) : Prop := match st with
  | .long x :: r => f x r
  | _ => False
def pR (st : List Value) (f : Nat → List Value → Prop) : Prop := match st with
  | .ref x :: r => f x r
  | _ => False
def pV (st : List Value) (f : Value → List Value → Prop) : Prop := match st with
  | v :: r => f v r
  | _ => False
def pops : Nat → List Value → Option (List Value × List Value)
  | 0, st => some ([], st)
  | n + 1, st => match st with
    | v :: r => (pops n r).map (fun q => (q.1 ++ [v], q.2))
    | [] => none
def rvl : Option Nat → Value
  | some a => .ref a
  | none => .null
/-- what a field holds -/
def fvl (m : xM) (a c f : Nat) : Value := match fk c f with
  | 0 => .int (m.1 a f)
  | 1 => .int (m.1 a f)
  | 2 => .long (m.2.1 a f)
  | _ => rvl (m.2.2 a f)
def tgt (pc : Nat) (o : Int) : Nat := ((pc : Int) + o).toNat
def osw : List (Int × Int) → Int → Int → Int
  | [], d, _ => d
  | (a, o) :: t, d, x => if x = a then o else osw t d x
/-- what one instruction of method k asks and gives: kk goes on, Q is the method's end, ca a call -/
def xi (k : Nat) (ca : Nat → List Value → xM → (Option Value → xM → Prop) → Prop) (kk : Nat → List (Nat × Value) → List Value → xM → Prop) (Q : Option Value → xM → Prop) (i : Instr) (pc : Nat) (l : List (Nat × Value)) (st : List Value) (m : xM) : Prop :=
  match i with
  | .iconst n => kk (pc + 1) l (.int (Int32.ofInt n) :: st) m
  | .bipush n => kk (pc + 2) l (.int (Int8.ofInt n).toInt32 :: st) m
  | .sipush n => kk (pc + 3) l (.int (Int16.ofInt n).toInt32 :: st) m
  | .lconst n => kk (pc + 1) l (.long (Int64.ofNat (n : Nat)) :: st) m
  | .iload_n n => match lkl (n : Nat) l with
    | some (.int x) => kk (pc + 1) l (.int x :: st) m
    | _ => False
  | .iload n => match lkl n l with
    | some (.int x) => kk (pc + 2) l (.int x :: st) m
    | _ => False
  | .lload_n n => match lkl (n : Nat) l with
    | some (.long x) => kk (pc + 1) l (.long x :: st) m
    | _ => False
  | .lload n => match lkl n l with
    | some (.long x) => kk (pc + 2) l (.long x :: st) m
    | _ => False
  | .aload_n n => match lkl (n : Nat) l with
    | some (.ref x) => kk (pc + 1) l (.ref x :: st) m
    | _ => False
  | .aload n => match lkl n l with
    | some (.ref x) => kk (pc + 2) l (.ref x :: st) m
    | _ => False
  | .istore_n n => (n : Nat) < knl k ∧ pI st fun x r => kk (pc + 1) (sv1 (n : Nat) (.int x) l) r m
  | .istore n => n < knl k ∧ pI st fun x r => kk (pc + 2) (sv1 n (.int x) l) r m
  | .lstore_n n => (n : Nat) + 1 < knl k ∧ pL st fun x r => kk (pc + 1) (sv2 (n : Nat) (.long x) l) r m
  | .lstore n => n + 1 < knl k ∧ pL st fun x r => kk (pc + 2) (sv2 n (.long x) l) r m
  | .astore_n n => (n : Nat) < knl k ∧ pR st fun x r => kk (pc + 1) (sv1 (n : Nat) (.ref x) l) r m
  | .astore n => n < knl k ∧ pR st fun x r => kk (pc + 2) (sv1 n (.ref x) l) r m
  | .iinc n d => n < knl k ∧ match lkl n l with
    | some (.int x) => kk (pc + 3) (sv1 n (.int (x + Int32.ofInt d)) l) st m
    | _ => False
  | .iadd => pI st fun y r => pI r fun x r => kk (pc + 1) l (.int (x + y) :: r) m
  | .isub => pI st fun y r => pI r fun x r => kk (pc + 1) l (.int (x - y) :: r) m
  | .imul => pI st fun y r => pI r fun x r => kk (pc + 1) l (.int (x * y) :: r) m
  | .iand => pI st fun y r => pI r fun x r => kk (pc + 1) l (.int (x &&& y) :: r) m
  | .ior => pI st fun y r => pI r fun x r => kk (pc + 1) l (.int (x ||| y) :: r) m
  | .ixor => pI st fun y r => pI r fun x r => kk (pc + 1) l (.int (x ^^^ y) :: r) m
  | .idiv => pI st fun y r => pI r fun x r => ¬ y = 0 ∧ kk (pc + 1) l (.int (x / y) :: r) m
  | .irem => pI st fun y r => pI r fun x r => ¬ y = 0 ∧ kk (pc + 1) l (.int (x - x / y * y) :: r) m
  | .ishl => pI st fun y r => pI r fun x r => kk (pc + 1) l (.int (x <<< (y &&& 31)) :: r) m
  | .ishr => pI st fun y r => pI r fun x r => kk (pc + 1) l (.int (x >>> (y &&& 31)) :: r) m
  | .iushr => pI st fun y r => pI r fun x r => kk (pc + 1) l (.int (x.toUInt32 >>> (y.toUInt32 &&& Int32.toUInt32 31)).toInt32 :: r) m
  | .ineg => pI st fun x r => kk (pc + 1) l (.int (-x) :: r) m
  | .i2l => pI st fun x r => kk (pc + 1) l (.long x.toInt64 :: r) m
  | .i2b => pI st fun x r => kk (pc + 1) l (.int x.toInt8.toInt32 :: r) m
  | .l2i => pL st fun x r => kk (pc + 1) l (.int x.toInt32 :: r) m
  | .ladd => pL st fun y r => pL r fun x r => kk (pc + 1) l (.long (x + y) :: r) m
  | .lsub => pL st fun y r => pL r fun x r => kk (pc + 1) l (.long (x - y) :: r) m
  | .lmul => pL st fun y r => pL r fun x r => kk (pc + 1) l (.long (x * y) :: r) m
  | .ldiv => pL st fun y r => pL r fun x r => ¬ y = 0 ∧ kk (pc + 1) l (.long (x / y) :: r) m
  | .lrem => pL st fun y r => pL r fun x r => ¬ y = 0 ∧ kk (pc + 1) l (.long (x - x / y * y) :: r) m
  | .lushr => pI st fun y r => pL r fun x r => kk (pc + 1) l (.long (x.toUInt64 >>> (y.toInt64.toUInt64 &&& Int64.toUInt64 63)).toInt64 :: r) m
  | .lcmp => pL st fun y r => pL r fun x r => kk (pc + 1) l (.int (lg_cmp x y) :: r) m
  | .dup => pV st fun v r => v.category = 1 ∧ kk (pc + 1) l (v :: v :: r) m
  | .pop => pV st fun v r => v.category = 1 ∧ kk (pc + 1) l r m
  | .dup2 => pV st fun v r => pV r fun w r => v.category = 1 ∧ w.category = 1 ∧ kk (pc + 1) l (v :: w :: v :: w :: r) m
  | .goto o => kk (tgt pc o) l st m
  | .ifCond .eq o => pI st fun x r => (x = 0 → kk (tgt pc o) l r m) ∧ (¬ x = 0 → kk (pc + 3) l r m)
  | .ifCond .ne o => pI st fun x r => (¬ x = 0 → kk (tgt pc o) l r m) ∧ (x = 0 → kk (pc + 3) l r m)
  | .ifCond .lt o => pI st fun x r => (x < 0 → kk (tgt pc o) l r m) ∧ (¬ x < 0 → kk (pc + 3) l r m)
  | .ifCond .ge o => pI st fun x r => (0 ≤ x → kk (tgt pc o) l r m) ∧ (¬ 0 ≤ x → kk (pc + 3) l r m)
  | .ifCond .gt o => pI st fun x r => (0 < x → kk (tgt pc o) l r m) ∧ (¬ 0 < x → kk (pc + 3) l r m)
  | .ifCond .le o => pI st fun x r => (x ≤ 0 → kk (tgt pc o) l r m) ∧ (¬ x ≤ 0 → kk (pc + 3) l r m)
  | .if_icmp .eq o => pI st fun y r => pI r fun x r => (x = y → kk (tgt pc o) l r m) ∧ (¬ x = y → kk (pc + 3) l r m)
  | .if_icmp .ne o => pI st fun y r => pI r fun x r => (¬ x = y → kk (tgt pc o) l r m) ∧ (x = y → kk (pc + 3) l r m)
  | .if_icmp .lt o => pI st fun y r => pI r fun x r => (x < y → kk (tgt pc o) l r m) ∧ (¬ x < y → kk (pc + 3) l r m)
  | .if_icmp .ge o => pI st fun y r => pI r fun x r => (y ≤ x → kk (tgt pc o) l r m) ∧ (¬ y ≤ x → kk (pc + 3) l r m)
  | .if_icmp .gt o => pI st fun y r => pI r fun x r => (y < x → kk (tgt pc o) l r m) ∧ (¬ y < x → kk (pc + 3) l r m)
  | .if_icmp .le o => pI st fun y r => pI r fun x r => (x ≤ y → kk (tgt pc o) l r m) ∧ (¬ x ≤ y → kk (pc + 3) l r m)
  | .ifnull _ => pR st fun _ r => kk (pc + 3) l r m
  | .ifnonnull o => pR st fun _ r => kk (tgt pc o) l r m
  | .tableswitch d lo hi os => pI st fun x r => (x.toInt < lo ∨ hi < x.toInt → kk (tgt pc d) l r m) ∧ (¬ x.toInt < lo → ¬ hi < x.toInt → ∃ o, os[(x.toInt - lo).toNat]? = some o ∧ kk (tgt pc o) l r m)
  | .lookupswitch d ps => pI st fun x r => kk (tgt pc (osw ps.toList d x.toInt)) l r m
  | .ldc i => match kLd (kcl k) i with
    | some (.int v) => kk (pc + 2) l (.int v :: st) m
    | some (.ref a) => kk (pc + 2) l (.ref a :: st) m
    | _ => False
  | .ldc_w i => match kLd (kcl k) i with
    | some (.int v) => kk (pc + 3) l (.int v :: st) m
    | _ => False
  | .ldc2_w i => match kLd (kcl k) i with
    | some (.long v) => kk (pc + 3) l (.long v :: st) m
    | _ => False
  | .getstatic i => match kSt (kcl k) i with
    | some a => kk (pc + 3) l (.ref a :: st) m
    | none => False
  | .getfield i => pR st fun a r => match kFd (kcl k) i with
    | some (ci, f) => lay a = (3, ci, kNf ci) ∧ kk (pc + 3) l (fvl m a ci f :: r) m
    | none => False
  | .putfield i => match kFd (kcl k) i with
    | some (ci, f) => fn ci f = false ∧ match fk ci f with
      | 0 => pI st fun x r => pR r fun a r => lay a = (3, ci, kNf ci) ∧ kk (pc + 3) l r (mI m a f x)
      | 1 => pI st fun x r => pR r fun a r => (x = 0 ∨ x = 1) ∧ lay a = (3, ci, kNf ci) ∧ kk (pc + 3) l r (mI m a f x)
      | 2 => pL st fun x r => pR r fun a r => lay a = (3, ci, kNf ci) ∧ kk (pc + 3) l r (mJ m a f x)
      | 3 => pR st fun x r => pR r fun a r => lay a = (3, ci, kNf ci) ∧ kk (pc + 3) l r (mR m a f (some x))
      | _ => False
    | none => False
  | .arraylength => pR st fun a r => match lay a with
    | (0, _, n) => kk (pc + 1) l (.int (Int32.ofNat n) :: r) m
    | (4, _, n) => kk (pc + 1) l (.int (Int32.ofNat n) :: r) m
    | _ => False
  | .iaload => pI st fun i r => pR r fun a r => match lay a with
    | (0, 0, n) => vp_in i n ∧ kk (pc + 1) l (.int (m.1 a i.toNatClampNeg) :: r) m
    | (4, 0, n) => vp_in i n ∧ kk (pc + 1) l (.int (cst a i.toNatClampNeg) :: r) m
    | _ => False
  | .baload => pI st fun i r => pR r fun a r => match lay a with
    | (0, 1, n) => vp_in i n ∧ kk (pc + 1) l (.int (m.1 a i.toNatClampNeg) :: r) m
    | (0, 2, n) => vp_in i n ∧ kk (pc + 1) l (.int (m.1 a i.toNatClampNeg) :: r) m
    | _ => False
  | .caload => pI st fun i r => pR r fun a r => match lay a with
    | (4, 3, n) => vp_in i n ∧ kk (pc + 1) l (.int (cst a i.toNatClampNeg) :: r) m
    | _ => False
  | .laload => pI st fun i r => pR r fun a r => match lay a with
    | (1, _, n) => vp_in i n ∧ kk (pc + 1) l (.long (m.2.1 a i.toNatClampNeg) :: r) m
    | _ => False
  | .aaload => pI st fun i r => pR r fun a r => match lay a with
    | (2, _, n) => vp_in i n ∧ kk (pc + 1) l (rvl (m.2.2 a i.toNatClampNeg) :: r) m
    | _ => False
  | .iastore => pI st fun x r => pI r fun i r => pR r fun a r => match lay a with
    | (0, 0, n) => vp_in i n ∧ kk (pc + 1) l r (mI m a i.toNatClampNeg x)
    | _ => False
  | .bastore => pI st fun x r => pI r fun i r => pR r fun a r => match lay a with
    | (0, 1, n) => vp_in i n ∧ kk (pc + 1) l r (mI m a i.toNatClampNeg (vp_nar .byte x))
    | (0, 2, n) => vp_in i n ∧ kk (pc + 1) l r (mI m a i.toNatClampNeg (vp_nar .boolean x))
    | _ => False
  | .lastore => pL st fun x r => pI r fun i r => pR r fun a r => match lay a with
    | (1, _, n) => vp_in i n ∧ kk (pc + 1) l r (mJ m a i.toNatClampNeg x)
    | _ => False
  | .invokevirtual i => match kCl (kcl k) i with
    | some (1, j) => match pops (knp j) st with
      | some (as, .ref b :: r) => lay b = (3, kcl j, kNf (kcl j)) ∧ (r.map fun v => v.category).sum ≤ 8 ∧ kmc j = 0 ∧ kms j = 0 ∧ ca j (.ref b :: as) m (fun rv m' => kk (pc + 3) l (rv.toList ++ r) m')
      | _ => False
    | some (3, j) => match pops (knp j) st with
      | some (as, .ref b :: r) => (lay b).1 = 5 ∧ (r.map fun v => v.category).sum ≤ 8 ∧ ca j (.ref b :: as) m (fun rv m' => kk (pc + 3) l (rv.toList ++ r) m')
      | _ => False
    | _ => False
  | .invokestatic i => match kCl (kcl k) i with
    | some (2, j) => match pops (knp j) st with
      | some (as, r) => (r.map fun v => v.category).sum ≤ 8 ∧ kmc j = 0 ∧ kms j = 0 ∧ ca j as m (fun rv m' => kk (pc + 3) l (rv.toList ++ r) m')
      | none => False
    | some (5, _) => pI st fun n r => pI r fun dp r => pR r fun b r => pI r fun sp r => pR r fun a r => (r.map fun v => v.category).sum ≤ 8 ∧ ¬ sp < 0 ∧ ¬ dp < 0 ∧ ¬ n < 0 ∧ match lay b with
      | (0, 0, nb) => dp.toNatClampNeg + n.toNatClampNeg ≤ nb ∧ match lay a with
        | (0, 0, na) => sp.toNatClampNeg + n.toNatClampNeg ≤ na ∧ kk (pc + 3) l r (mC m b (va_cpy (m.1 a) (m.1 b) sp.toNatClampNeg dp.toNatClampNeg n.toNatClampNeg))
        | (4, 0, na) => sp.toNatClampNeg + n.toNatClampNeg ≤ na ∧ kk (pc + 3) l r (mC m b (va_cpy (cst a) (m.1 b) sp.toNatClampNeg dp.toNatClampNeg n.toNatClampNeg))
        | _ => False
      | _ => False
    | _ => False
  | .ireturn => pI st fun x r => r = [] ∧ (kr k = 1 ∨ (kr k = 2 ∧ (x = 0 ∨ x = 1))) ∧ Q (some (.int x)) m
  | .lreturn => pL st fun x r => r = [] ∧ kr k = 4 ∧ Q (some (.long x)) m
  | .return_ => st = [] ∧ kr k = 0 ∧ Q none m
  | _ => False
/-- a method's walk, of n instructions at most -/
def xe (k : Nat) (ca : Nat → List Value → xM → (Option Value → xM → Prop) → Prop) (Q : Option Value → xM → Prop) : Nat → Nat → List (Nat × Value) → List Value → xM → Prop
  | 0, _, _, _, _ => False
  | n + 1, pc, l, st, m => match lkc pc (kcode k) with
    | some i => xi k ca (xe k ca Q n) Q i pc l st m
    | none => False
/-- the two methods of String, on the constants -/
def xstr (k : Nat) (as : List Value) (m : xM) (Q : Option Value → xM → Prop) : Prop := match as with
  | [.ref a] => k = 271 ∧ match lay a with
    | (5, _, n) => Q (some (.int (Int32.ofNat n))) m
    | _ => False
  | [.ref a, .int i] => k = 272 ∧ match lay a with
    | (5, _, n) => vp_in i n ∧ Q (some (.int (cst a i.toNatClampNeg))) m
    | _ => False
  | _ => False
/-- a call of method k, of depth d at most -/
def xw : Nat → Nat → List Value → xM → (Option Value → xM → Prop) → Prop
  | 0, _, _, _, _ => False
  | d + 1, k, as, m, Q => bif Nat.ble 271 k then xstr k as m Q else kmc k = 0 ∧ kms k = 0 ∧ (lg_sl as).length ≤ knl k ∧ ∃ n, xe k (xw d) Q n 0 (lv_args 0 as) [] m
