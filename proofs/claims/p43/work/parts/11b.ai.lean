/-! L2: one instruction by intervals -/
noncomputable section NC
abbrev aLs : Type := List (Nat × aV)
abbrev aFs : Type := List (Nat × Nat × Int × Int)
def lkA (j : Nat) (l : aLs) : Option aV := List.rec (motive := fun _ => Option aV) none (fun q _ ih => bif Nat.beq q.1 j then some q.2 else ih) l
/-- a source dies with its local -/
def sdj (j : Nat) (v : aV) : Bool := (Nat.beq v.2.2.2.2.1.1 1 && Nat.beq v.2.2.2.2.1.2.1 j) || ((Nat.beq v.2.2.2.2.1.1 3 || (Nat.beq v.2.2.2.2.1.1 2 && Nat.ble 2 v.1)) && (Nat.beq v.2.2.2.2.1.2.1 j || Nat.beq (v.2.2.2.2.1.2.1 + 1) j))
def kilJ (j : Nat) (S : List aV) : List aV := qmp (fun v => bif sdj j v then aNs v else v) S
/-- a source dies with its place in the memory -/
def sdm (c i0 i1 : Nat) (v : aV) : Bool := Nat.beq v.2.2.2.2.1.1 2 && (Nat.beq v.1 1 && (Nat.beq v.2.2.2.2.1.2.1 c && (Nat.ble i0 v.2.2.2.2.1.2.2 && Nat.ble v.2.2.2.2.1.2.2 i1)))
def kilM (cs : List Nat) (i0 i1 : Nat) (S : List aV) : List aV := qmp (fun v => bif qan (fun c => sdm c i0 i1 v) cs then aNs v else v) S
def filM (cs : List Nat) (i0 i1 : Nat) (F : aFs) : aFs := qfl (fun f => !(qan (fun c => Nat.beq f.1 c && (Nat.ble i0 f.2.1 && Nat.ble f.2.1 i1)) cs)) F
/-- a store into a local of one word, of two -/
def lngA (j : Nat) (L : aLs) : Bool := match j with
  | 0 => false
  | i + 1 => match lkA i L with
    | some v => Nat.ble 2 v.1
    | none => false
def st1A (j : Nat) (v : aV) (L : aLs) : aLs := (j, aNs v) :: qfl (fun p => !(Nat.beq p.1 j) && !(Nat.beq (p.1 + 1) j && lngA j L)) L
def st2A (j : Nat) (v : aV) (L : aLs) : aLs := (j, aNs v) :: qfl (fun p => !(Nat.beq p.1 j) && (!(Nat.beq p.1 (j + 1)) && !(Nat.beq (p.1 + 1) j && lngA j L))) L
def gjo (i0 i1 : Nat) (l : List (Nat × Int × Int)) : Int × Int := List.rec (motive := fun _ => Int × Int) (iLo, iHi) (fun q _ ih => bif Nat.blt i1 q.1 then (q.2.1, q.2.2) else bif Nat.ble q.1 i0 then ih else (imin q.2.1 ih.1, imax q.2.2 ih.2)) l
def gck (i0 i1 : Nat) (lo' hi' : Int) (l : List (Nat × Int × Int)) : Bool := List.rec (motive := fun _ => Bool) true (fun q _ ih => bif Nat.blt i1 q.1 then ile q.2.1 lo' && ile hi' q.2.2 else bif Nat.ble q.1 i0 then ih else (ile q.2.1 lo' && ile hi' q.2.2) && ih) l
/-- what is read at one place -/
def rd1 (tS : Nat → List (Nat × Int × Int)) (F : aFs) (a i : Nat) : Int × Int := match fct a i F with
  | some r => r
  | none => gseg i (tS a)
def rdJ (tS : Nat → List (Nat × Int × Int)) (i0 i1 : Nat) : List Nat → Int × Int
  | [] => (iLo, iHi)
  | [c] => gjo i0 i1 (tS c)
  | c :: t => (imin (gjo i0 i1 (tS c)).1 (rdJ tS i0 i1 t).1, imax (gjo i0 i1 (tS c)).2 (rdJ tS i0 i1 t).2)
/-- the value read from cells cs at i0 .. i1 -/
def rdA (tS : Nat → List (Nat × Int × Int)) (F : aFs) (cs : List Nat) (i0 i1 : Nat) : aV := match cs with
  | [a] => bif Nat.beq i0 i1 then (1, [], (rd1 tS F a i0).1, (rd1 tS F a i0).2, (2, a, i0), none) else aI (gjo i0 i1 (tS a)).1 (gjo i0 i1 (tS a)).2
  | _ => aI (rdJ tS i0 i1 cs).1 (rdJ tS i0 i1 cs).2
def wrF (F : aFs) (cs : List Nat) (i0 i1 : Nat) (lo hi : Int) : aFs := match cs with
  | [a] => bif Nat.beq i0 i1 then (a, i0, lo, hi) :: filM [a] i0 i1 F else filM [a] i0 i1 F
  | _ => filM cs i0 i1 F
/-- refs read from cells cs at i0 .. i1 -/
def rfN (tR : Nat → Nat → Option Nat) (c i0 : Nat) : Nat → Option (List Nat)
  | 0 => some []
  | n + 1 => match tR c (i0 + n), rfN tR c i0 n with
    | some b, some t => some (b :: t)
    | _, _ => none
def rfC (tR : Nat → Nat → Option Nat) (i0 n : Nat) : List Nat → Option (List Nat)
  | [] => some []
  | c :: t => match rfN tR c i0 n, rfC tR i0 n t with
    | some x, some y => some (x ++ y)
    | _, _ => none
def wMs (M : List (Nat × Nat × Nat)) (c i0 i1 : Nat) : Bool := qan (fun q => Nat.beq q.1 c && (Nat.ble q.2.1 i0 && Nat.blt i1 q.2.2)) M
def wm1 (M : List (Nat × Nat × Nat)) (c i : Nat) : Bool := M.any (fun q => Nat.beq q.1 c && (Nat.ble q.2.1 i && Nat.blt i q.2.2))
/-- where the source of a value is known to lie -/
def rfL (j : Nat) (lo hi : Int) (l : aLs) : aLs := List.rec (motive := fun _ => aLs) [] (fun q t ih => bif Nat.beq q.1 j then (bif Nat.beq q.2.1 1 then (q.1, (1, [], imax q.2.2.2.1 lo, imin q.2.2.2.2.1 hi, (0, 0, 0), q.2.2.2.2.2.2)) :: t else q :: t) else q :: ih) l
def rfLs (s : aS) (lo hi : Int) (L : aLs) : aLs := match s with
  | (1, j, _) => rfL j lo hi L
  | _ => L
def rfFs (tS : Nat → List (Nat × Int × Int)) (s : aS) (lo hi : Int) (F : aFs) : aFs := match s with
  | (2, a, i) => (a, i, imax (rd1 tS F a i).1 lo, imin (rd1 tS F a i).2 hi) :: F
  | _ => F
def nzL (j : Nat) : aLs → aLs
  | [] => []
  | (i, v) :: t => bif Nat.beq i j then (bif Nat.beq v.1 2 then (i, (3, v.2.1, v.2.2.1, v.2.2.2.1, v.2.2.2.2.1, none)) :: t else (i, v) :: t) else (i, v) :: nzL j t
def nzS (s : aS) (L : aLs) : aLs := match s with
  | (3, j, _) => nzL j L
  | _ => L
/-- go on with x in lo .. hi and y in lo' .. hi' (nothing to show if that is empty) -/
def br2 (tS : Nat → List (Nat × Int × Int)) (kA : Nat → aLs → List aV → aFs → Bool) (pc : Nat) (x y : aV) (lo hi lo' hi' : Int) (L : aLs) (R : List aV) (F : aFs) : Bool :=
  bif ile (imax x.2.2.1 lo) (imin x.2.2.2.1 hi) && ile (imax y.2.2.1 lo') (imin y.2.2.2.1 hi') then
    kA pc (rfLs y.2.2.2.2.1 lo' hi' (rfLs x.2.2.2.2.1 lo hi L)) R (rfFs tS y.2.2.2.2.1 lo' hi' (rfFs tS x.2.2.2.2.1 lo hi F)) else true
def br1 (tS : Nat → List (Nat × Int × Int)) (kA : Nat → aLs → List aV → aFs → Bool) (pc : Nat) (x : aV) (lo hi : Int) (L : aLs) (R : List aV) (F : aFs) : Bool :=
  bif ile (imax x.2.2.1 lo) (imin x.2.2.2.1 hi) then kA pc (rfLs x.2.2.2.2.1 lo hi L) R (rfFs tS x.2.2.2.2.1 lo hi F) else true
def inI (lo hi : Int) : Bool := ile iLo lo && ile hi iHi
def inL (lo hi : Int) : Bool := ile lLo lo && ile hi lHi
def rI (lo hi : Int) : aV := bif inI lo hi then aI lo hi else aIt
def rIt (lo hi : Int) (t : Option (Nat × Int)) : aV := bif inI lo hi then (1, [], lo, hi, (0, 0, 0), t) else aIt
def rL (lo hi : Int) : aV := bif inL lo hi then aL lo hi else aLt
def cst1 (v : aV) : Option Int := bif ile v.2.2.1 v.2.2.2.1 && ile v.2.2.2.1 v.2.2.1 then some v.2.2.1 else none
def tgA (d : Int) : Option (Nat × Int) → Option (Nat × Int)
  | some (j, e) => some (j, e + d)
  | none => none
def addA (x y : aV) : aV := rIt (x.2.2.1 + y.2.2.1) (x.2.2.2.1 + y.2.2.2.1) (match cst1 y with
  | some d => tgA d x.2.2.2.2.2
  | none => match cst1 x with
    | some d => tgA d y.2.2.2.2.2
    | none => none)
def subA (x y : aV) : aV := rIt (x.2.2.1 - y.2.2.2.1) (x.2.2.2.1 - y.2.2.1) (match cst1 y with
  | some d => tgA (-d) x.2.2.2.2.2
  | none => none)
def mulB (a b c d : Int) : Int × Int := (imin (imin (a * c) (a * d)) (imin (b * c) (b * d)), imax (imax (a * c) (a * d)) (imax (b * c) (b * d)))
def pw2 : Nat → Int → Int
  | 0, _ => 2147483647
  | n + 1, h => bif ile h (2147483647 / (2 ^ n : Nat)) then 2147483647 / (2 ^ n : Nat) else pw2 n h
def andA (x y : aV) : aV := bif ile 0 y.2.2.1 then aI 0 (bif ile 0 x.2.2.1 then imin x.2.2.2.1 y.2.2.2.1 else y.2.2.2.1) else bif ile 0 x.2.2.1 then aI 0 x.2.2.2.1 else aIt
def orA (x y : aV) : aV := bif ile 0 x.2.2.1 && ile 0 y.2.2.1 then aI 0 (pw2 31 (imax x.2.2.2.1 y.2.2.2.1)) else aIt
def orB (x y : aV) : aV := bif ile 0 x.2.2.1 && ile 0 y.2.2.1 then aI (imax x.2.2.1 y.2.2.1) (pw2 31 (imax x.2.2.2.1 y.2.2.2.1)) else aIt
def shlA (x y : aV) : aV := bif ile 0 x.2.2.1 && (ile 0 y.2.2.1 && (ile y.2.2.2.1 30 && ile (x.2.2.2.1 * (2 ^ y.2.2.2.1.toNat : Nat)) iHi)) then aI (x.2.2.1 * (2 ^ y.2.2.1.toNat : Nat)) (x.2.2.2.1 * (2 ^ y.2.2.2.1.toNat : Nat)) else aIt
def shrA (x _ : aV) : aV := bif ile 0 x.2.2.1 then aI 0 x.2.2.2.1 else aIt
def divA (x y : aV) : aV := bif ile 0 x.2.2.1 && ile 1 y.2.2.1 then aI 0 x.2.2.2.1 else aIt
def mulA (x y : aV) : aV := rI (mulB x.2.2.1 x.2.2.2.1 y.2.2.1 y.2.2.2.1).1 (mulB x.2.2.1 x.2.2.2.1 y.2.2.1 y.2.2.2.1).2
/-- of two numbers that are known the answer is known -/
def ex2 (f : Int32 → Int32 → Int32) (x y w : aV) : aV := match cst1 x, cst1 y with
  | some a, some b => aI (f (Int32.ofInt a) (Int32.ofInt b)).toInt (f (Int32.ofInt a) (Int32.ofInt b)).toInt
  | _, _ => w
def popA : Nat → List aV → Option (List aV × List aV)
  | 0, S => some ([], S)
  | n + 1, S => match S with
    | v :: R => match popA n R with
      | some (as, r) => some (as ++ [v], r)
      | none => none
    | [] => none
def pcl (pc : Nat) (o : Int) : Nat := tgt pc o
def ix (v : aV) (n : Nat) : Bool := ile 0 v.2.2.1 && ile v.2.2.2.1 (Int.ofNat n - 1)
/-- copies between rows: the ranges fit -/
def cpC (tS : Nat → List (Nat × Int × Int)) (src dst sp dp : Nat) : Nat → Bool
  | 0 => true
  | n + 1 => gck (dp + n) (dp + n) (gseg (sp + n) (tS src)).1 (gseg (sp + n) (tS src)).2 (tS dst) && cpC tS src dst sp dp n
def cpK (tS : Nat → List (Nat × Int × Int)) (src dst sp dp : Nat) : Nat → Bool
  | 0 => true
  | n + 1 => gck (dp + n) (dp + n) (cst src (sp + n)).toInt (cst src (sp + n)).toInt (tS dst) && cpK tS src dst sp dp n
/-- the bounds of a constant row from i0 on, n places -/
def cmn (a i0 : Nat) : Nat → Int × Int
  | 0 => (iHi, iLo)
  | n + 1 => (imin (cst a (i0 + n)).toInt (cmn a i0 n).1, imax (cst a (i0 + n)).toInt (cmn a i0 n).2)
def swA (tS : Nat → List (Nat × Int × Int)) (kA : Nat → aLs → List aV → aFs → Bool) (pc : Nat) (x : aV) (L : aLs) (R : List aV) (F : aFs) : Int → List Int → Bool
  | _, [] => true
  | v, o :: t => br1 tS kA (tgt pc o) x v v L R F && swA tS kA pc x L R F (v + 1) t
def lswA (tS : Nat → List (Nat × Int × Int)) (kA : Nat → aLs → List aV → aFs → Bool) (pc : Nat) (x : aV) (L : aLs) (R : List aV) (F : aFs) : List (Int × Int) → Bool
  | [] => true
  | (v, o) :: t => br1 tS kA (tgt pc o) x v v L R F && lswA tS kA pc x L R F t
/-- one instruction -/
def aiP (i : Instr) : Unit × ((Nat → List (Nat × Int × Int)) → (Nat → Nat → Option Nat) → List (Nat × Nat × Nat) → Nat → (Nat → List aV → (Option aV → (aLs → aLs) → (List aV → List aV) → (aFs → aFs) → Bool) → aFs → Bool) → (Nat → aLs → List aV → aFs → Bool) → (Option aV → aLs → aFs → Bool) → Nat → aLs → List aV → aFs → Bool) :=
  match i with
  | .iconst n => ((), fun tS tR M k cA kA rA pc L S F => kA (pc + 1) L (aI (Int32.ofInt n).toInt (Int32.ofInt n).toInt :: S) F)
  | .bipush n => ((), fun tS tR M k cA kA rA pc L S F => kA (pc + 2) L (aI (Int8.ofInt n).toInt32.toInt (Int8.ofInt n).toInt32.toInt :: S) F)
  | .sipush n => ((), fun tS tR M k cA kA rA pc L S F => kA (pc + 3) L (aI (Int16.ofInt n).toInt32.toInt (Int16.ofInt n).toInt32.toInt :: S) F)
  | .lconst n => ((), fun tS tR M k cA kA rA pc L S F => kA (pc + 1) L (aL (Int64.ofNat (n : Nat)).toInt (Int64.ofNat (n : Nat)).toInt :: S) F)
  | .iload_n n => ((), fun tS tR M k cA kA rA pc L S F => match lkA (n : Nat) L with
    | some v => Nat.beq v.1 1 && kA (pc + 1) L ((1, [], v.2.2.1, v.2.2.2.1, (1, (n : Nat), 0), v.2.2.2.2.2) :: S) F
    | none => false)
  | .iload n => ((), fun tS tR M k cA kA rA pc L S F => match lkA n L with
    | some v => Nat.beq v.1 1 && kA (pc + 2) L ((1, [], v.2.2.1, v.2.2.2.1, (1, n, 0), v.2.2.2.2.2) :: S) F
    | none => false)
  | .lload_n n => ((), fun tS tR M k cA kA rA pc L S F => match lkA (n : Nat) L with
    | some v => Nat.ble 2 v.1 && kA (pc + 1) L ((v.1, [], v.2.2.1, v.2.2.2.1, (2, (n : Nat), 0), none) :: S) F
    | none => false)
  | .lload n => ((), fun tS tR M k cA kA rA pc L S F => match lkA n L with
    | some v => Nat.ble 2 v.1 && kA (pc + 2) L ((v.1, [], v.2.2.1, v.2.2.2.1, (2, n, 0), none) :: S) F
    | none => false)
  | .aload_n n => ((), fun tS tR M k cA kA rA pc L S F => match lkA (n : Nat) L with
    | some v => Nat.beq v.1 0 && kA (pc + 1) L (aR v.2.1 :: S) F
    | none => false)
  | .aload n => ((), fun tS tR M k cA kA rA pc L S F => match lkA n L with
    | some v => Nat.beq v.1 0 && kA (pc + 2) L (aR v.2.1 :: S) F
    | none => false)
  | .istore_n n => ((), fun tS tR M k cA kA rA pc L S F => match S with
    | v :: R => Nat.beq v.1 1 && (Nat.blt (n : Nat) (knl k) && kA (pc + 1) (st1A (n : Nat) v L) (kilJ (n : Nat) R) F)
    | [] => false)
  | .istore n => ((), fun tS tR M k cA kA rA pc L S F => match S with
    | v :: R => Nat.beq v.1 1 && (Nat.blt n (knl k) && kA (pc + 2) (st1A n v L) (kilJ n R) F)
    | [] => false)
  | .lstore_n n => ((), fun tS tR M k cA kA rA pc L S F => match S with
    | v :: R => Nat.ble 2 v.1 && (Nat.blt ((n : Nat) + 1) (knl k) && kA (pc + 1) (st2A (n : Nat) v L) (kilJ (n : Nat) (kilJ ((n : Nat) + 1) R)) F)
    | [] => false)
  | .lstore n => ((), fun tS tR M k cA kA rA pc L S F => match S with
    | v :: R => Nat.ble 2 v.1 && (Nat.blt (n + 1) (knl k) && kA (pc + 2) (st2A n v L) (kilJ n (kilJ (n + 1) R)) F)
    | [] => false)
  | .astore_n n => ((), fun tS tR M k cA kA rA pc L S F => match S with
    | v :: R => Nat.beq v.1 0 && (Nat.blt (n : Nat) (knl k) && kA (pc + 1) (st1A (n : Nat) v L) (kilJ (n : Nat) R) F)
    | [] => false)
  | .astore n => ((), fun tS tR M k cA kA rA pc L S F => match S with
    | v :: R => Nat.beq v.1 0 && (Nat.blt n (knl k) && kA (pc + 2) (st1A n v L) (kilJ n R) F)
    | [] => false)
  | .iinc n d => ((), fun tS tR M k cA kA rA pc L S F => match lkA n L with
    | some v => Nat.beq v.1 1 && (Nat.blt n (knl k) && kA (pc + 3) (st1A n (addA v (aI (Int32.ofInt d).toInt (Int32.ofInt d).toInt)) L) (kilJ n S) F)
    | none => false)
  | .iadd => ((), fun tS tR M k cA kA rA pc L S F => match S with
    | y :: x :: R => Nat.beq y.1 1 && (Nat.beq x.1 1 && kA (pc + 1) L (addA x y :: R) F)
    | _ => false)
  | .isub => ((), fun tS tR M k cA kA rA pc L S F => match S with
    | y :: x :: R => Nat.beq y.1 1 && (Nat.beq x.1 1 && kA (pc + 1) L (subA x y :: R) F)
    | _ => false)
  | .imul => ((), fun tS tR M k cA kA rA pc L S F => match S with
    | y :: x :: R => Nat.beq y.1 1 && (Nat.beq x.1 1 && kA (pc + 1) L (mulA x y :: R) F)
    | _ => false)
  | .iand => ((), fun tS tR M k cA kA rA pc L S F => match S with
    | y :: x :: R => Nat.beq y.1 1 && (Nat.beq x.1 1 && kA (pc + 1) L (ex2 (fun a b => a &&& b) x y (andA x y) :: R) F)
    | _ => false)
  | .ior => ((), fun tS tR M k cA kA rA pc L S F => match S with
    | y :: x :: R => Nat.beq y.1 1 && (Nat.beq x.1 1 && kA (pc + 1) L (ex2 (fun a b => a ||| b) x y (orB x y) :: R) F)
    | _ => false)
  | .ixor => ((), fun tS tR M k cA kA rA pc L S F => match S with
    | y :: x :: R => Nat.beq y.1 1 && (Nat.beq x.1 1 && kA (pc + 1) L (ex2 (fun a b => a ^^^ b) x y (orA x y) :: R) F)
    | _ => false)
  | .idiv => ((), fun tS tR M k cA kA rA pc L S F => match S with
    | y :: x :: R => Nat.beq y.1 1 && (Nat.beq x.1 1 && ((ile 1 y.2.2.1 || ile y.2.2.2.1 (-1)) && kA (pc + 1) L (divA x y :: R) F))
    | _ => false)
  | .ishl => ((), fun tS tR M k cA kA rA pc L S F => match S with
    | y :: x :: R => Nat.beq y.1 1 && (Nat.beq x.1 1 && kA (pc + 1) L (shlA x y :: R) F)
    | _ => false)
  | .ishr => ((), fun tS tR M k cA kA rA pc L S F => match S with
    | y :: x :: R => Nat.beq y.1 1 && (Nat.beq x.1 1 && kA (pc + 1) L (ex2 (fun a b => a >>> (b &&& 31)) x y (shrA x y) :: R) F)
    | _ => false)
  | .iushr => ((), fun tS tR M k cA kA rA pc L S F => match S with
    | y :: x :: R => Nat.beq y.1 1 && (Nat.beq x.1 1 && kA (pc + 1) L (aIt :: R) F)
    | _ => false)
  | .ineg => ((), fun tS tR M k cA kA rA pc L S F => match S with
    | x :: R => Nat.beq x.1 1 && kA (pc + 1) L (rI (-x.2.2.2.1) (-x.2.2.1) :: R) F
    | _ => false)
  | .i2l => ((), fun tS tR M k cA kA rA pc L S F => match S with
    | x :: R => Nat.beq x.1 1 && kA (pc + 1) L ((2, [], x.2.2.1, x.2.2.2.1, (bif Nat.beq x.2.2.2.2.1.1 1 then (1, x.2.2.2.2.1.2.1, 0) else (0, 0, 0)), none) :: R) F
    | _ => false)
  | .i2b => ((), fun tS tR M k cA kA rA pc L S F => match S with
    | x :: R => Nat.beq x.1 1 && kA (pc + 1) L (aI (-128) 127 :: R) F
    | _ => false)
  | .l2i => ((), fun tS tR M k cA kA rA pc L S F => match S with
    | x :: R => Nat.ble 2 x.1 && kA (pc + 1) L ((bif inI x.2.2.1 x.2.2.2.1 then aI x.2.2.1 x.2.2.2.1 else aIt) :: R) F
    | _ => false)
  | .ladd => ((), fun tS tR M k cA kA rA pc L S F => match S with
    | y :: x :: R => Nat.ble 2 y.1 && (Nat.ble 2 x.1 && kA (pc + 1) L (rL (x.2.2.1 + y.2.2.1) (x.2.2.2.1 + y.2.2.2.1) :: R) F)
    | _ => false)
  | .lsub => ((), fun tS tR M k cA kA rA pc L S F => match S with
    | y :: x :: R => Nat.ble 2 y.1 && (Nat.ble 2 x.1 && kA (pc + 1) L (rL (x.2.2.1 - y.2.2.2.1) (x.2.2.2.1 - y.2.2.1) :: R) F)
    | _ => false)
  | .lmul => ((), fun tS tR M k cA kA rA pc L S F => match S with
    | y :: x :: R => Nat.ble 2 y.1 && (Nat.ble 2 x.1 && kA (pc + 1) L (rL (mulB x.2.2.1 x.2.2.2.1 y.2.2.1 y.2.2.2.1).1 (mulB x.2.2.1 x.2.2.2.1 y.2.2.1 y.2.2.2.1).2 :: R) F)
    | _ => false)
  | .ldiv => ((), fun tS tR M k cA kA rA pc L S F => match S with
    | y :: x :: R => Nat.ble 2 y.1 && (Nat.ble 2 x.1 && ((Nat.beq y.1 3 || (ile 1 y.2.2.1 || ile y.2.2.2.1 (-1))) && kA (pc + 1) L ((bif ile 0 x.2.2.1 && ile 1 y.2.2.1 then aL 0 x.2.2.2.1 else aLt) :: R) F))
    | _ => false)
  | .lrem => ((), fun tS tR M k cA kA rA pc L S F => match S with
    | y :: x :: R => Nat.ble 2 y.1 && (Nat.ble 2 x.1 && (ile 1 y.2.2.1 && kA (pc + 1) L ((bif ile 0 x.2.2.1 then aL 0 (y.2.2.2.1 - 1) else aLt) :: R) F))
    | _ => false)
  | .lushr => ((), fun tS tR M k cA kA rA pc L S F => match S with
    | y :: x :: R => Nat.beq y.1 1 && (Nat.ble 2 x.1 && kA (pc + 1) L ((bif ile 33 y.2.2.1 && ile y.2.2.2.1 33 then aL 0 iHi else aLt) :: R) F)
    | _ => false)
  | .lcmp => ((), fun tS tR M k cA kA rA pc L S F => match S with
    | y :: x :: R => Nat.ble 2 y.1 && (Nat.ble 2 x.1 && kA (pc + 1) L (aIs (-1) 1 (bif Nat.beq x.2.2.2.2.1.1 2 && (ile 0 y.2.2.1 && ile y.2.2.2.1 0) then (3, x.2.2.2.2.1.2.1, 0) else (0, 0, 0)) :: R) F)
    | _ => false)
  | .dup => ((), fun tS tR M k cA kA rA pc L S F => match S with
    | v :: R => Nat.ble v.1 1 && kA (pc + 1) L (v :: v :: R) F
    | _ => false)
  | .pop => ((), fun tS tR M k cA kA rA pc L S F => match S with
    | v :: R => Nat.ble v.1 1 && kA (pc + 1) L R F
    | _ => false)
  | .dup2 => ((), fun tS tR M k cA kA rA pc L S F => match S with
    | v :: w :: R => Nat.ble v.1 1 && (Nat.ble w.1 1 && kA (pc + 1) L (v :: w :: v :: w :: R) F)
    | _ => false)
  | .goto o => ((), fun tS tR M k cA kA rA pc L S F => kA (tgt pc o) L S F)
  | .ifCond cc o => ((), fun tS tR M k cA kA rA pc L S F => match S with
    | x :: R => Nat.beq x.1 1 && (match cc with
      | .eq => br1 tS kA (tgt pc o) x 0 0 L R F && (br1 tS kA (pc + 3) x 1 iHi (nzS x.2.2.2.2.1 L) R F && br1 tS kA (pc + 3) x iLo (-1) (nzS x.2.2.2.2.1 L) R F)
      | .ne => br1 tS kA (pc + 3) x 0 0 L R F && (br1 tS kA (tgt pc o) x 1 iHi (nzS x.2.2.2.2.1 L) R F && br1 tS kA (tgt pc o) x iLo (-1) (nzS x.2.2.2.2.1 L) R F)
      | .lt => br1 tS kA (tgt pc o) x iLo (-1) L R F && br1 tS kA (pc + 3) x 0 iHi L R F
      | .ge => br1 tS kA (tgt pc o) x 0 iHi L R F && br1 tS kA (pc + 3) x iLo (-1) L R F
      | .gt => br1 tS kA (tgt pc o) x 1 iHi L R F && br1 tS kA (pc + 3) x iLo 0 L R F
      | .le => br1 tS kA (tgt pc o) x iLo 0 L R F && br1 tS kA (pc + 3) x 1 iHi L R F)
    | _ => false)
  | .if_icmp cc o => ((), fun tS tR M k cA kA rA pc L S F => match S with
    | y :: x :: R => Nat.beq y.1 1 && (Nat.beq x.1 1 && (match cc with
      | .eq => br2 tS kA (tgt pc o) x y y.2.2.1 y.2.2.2.1 x.2.2.1 x.2.2.2.1 L R F && (br2 tS kA (pc + 3) x y iLo (y.2.2.2.1 - 1) (x.2.2.1 + 1) iHi L R F && br2 tS kA (pc + 3) x y (y.2.2.1 + 1) iHi iLo (x.2.2.2.1 - 1) L R F)
      | .ne => br2 tS kA (pc + 3) x y y.2.2.1 y.2.2.2.1 x.2.2.1 x.2.2.2.1 L R F && (br2 tS kA (tgt pc o) x y iLo (y.2.2.2.1 - 1) (x.2.2.1 + 1) iHi L R F && br2 tS kA (tgt pc o) x y (y.2.2.1 + 1) iHi iLo (x.2.2.2.1 - 1) L R F)
      | .lt => br2 tS kA (tgt pc o) x y iLo (y.2.2.2.1 - 1) (x.2.2.1 + 1) iHi L R F && br2 tS kA (pc + 3) x y y.2.2.1 iHi iLo x.2.2.2.1 L R F
      | .ge => br2 tS kA (pc + 3) x y iLo (y.2.2.2.1 - 1) (x.2.2.1 + 1) iHi L R F && br2 tS kA (tgt pc o) x y y.2.2.1 iHi iLo x.2.2.2.1 L R F
      | .gt => br2 tS kA (tgt pc o) x y (y.2.2.1 + 1) iHi iLo (x.2.2.2.1 - 1) L R F && br2 tS kA (pc + 3) x y iLo y.2.2.2.1 x.2.2.1 iHi L R F
      | .le => br2 tS kA (pc + 3) x y (y.2.2.1 + 1) iHi iLo (x.2.2.2.1 - 1) L R F && br2 tS kA (tgt pc o) x y iLo y.2.2.2.1 x.2.2.1 iHi L R F))
    | _ => false)
  | .ifnull _ => ((), fun tS tR M k cA kA rA pc L S F => match S with
    | x :: R => Nat.beq x.1 0 && kA (pc + 3) L R F
    | _ => false)
  | .ifnonnull o => ((), fun tS tR M k cA kA rA pc L S F => match S with
    | x :: R => Nat.beq x.1 0 && kA (tgt pc o) L R F
    | _ => false)
  | .tableswitch d lo hi os => ((), fun tS tR M k cA kA rA pc L S F => match S with
    | x :: R => Nat.beq x.1 1 && (br1 tS kA (tgt pc d) x iLo (lo - 1) L R F && (br1 tS kA (tgt pc d) x (hi + 1) iHi L R F && (decide (os.toList.length = (hi + 1 - lo).toNat) && swA tS kA pc x L R F lo os.toList)))
    | _ => false)
  | .lookupswitch d ps => ((), fun tS tR M k cA kA rA pc L S F => match S with
    | x :: R => Nat.beq x.1 1 && (kA (tgt pc d) L R F && lswA tS kA pc x L R F ps.toList)
    | _ => false)
  | .ldc i => ((), fun tS tR M k cA kA rA pc L S F => match kLd (kcl k) i with
    | some (.int v) => kA (pc + 2) L (aI v.toInt v.toInt :: S) F
    | some (.ref a) => kA (pc + 2) L (aR [a] :: S) F
    | _ => false)
  | .ldc_w i => ((), fun tS tR M k cA kA rA pc L S F => match kLd (kcl k) i with
    | some (.int v) => kA (pc + 3) L (aI v.toInt v.toInt :: S) F
    | _ => false)
  | .ldc2_w i => ((), fun tS tR M k cA kA rA pc L S F => match kLd (kcl k) i with
    | some (.long v) => kA (pc + 3) L (aL v.toInt v.toInt :: S) F
    | _ => false)
  | .getstatic i => ((), fun tS tR M k cA kA rA pc L S F => match kSt (kcl k) i with
    | some a => kA (pc + 3) L (aR [a] :: S) F
    | none => false)
  | .getfield i => ((), fun tS tR M k cA kA rA pc L S F => match S with
    | x :: R => Nat.beq x.1 0 && (match kFd (kcl k) i with
      | some (ci, f) => x.2.1.all (fun a => decide (lay a = (3, ci, kNf ci))) && (match fk ci f with
        | 0 => kA (pc + 3) L (rdA tS F x.2.1 f f :: R) F
        | 1 => kA (pc + 3) L (rdA tS F x.2.1 f f :: R) F
        | 2 => kA (pc + 3) L (aLt :: R) F
        | 3 => match rfC tR f 1 x.2.1 with
          | some cs => kA (pc + 3) L (aR cs :: R) F
          | none => false
        | _ => false)
      | none => false)
    | _ => false)
  | .putfield i => ((), fun tS tR M k cA kA rA pc L S F => match kFd (kcl k) i with
    | some (ci, f) => !(fn ci f) && (match S with
      | v :: x :: R => Nat.beq x.1 0 && (x.2.1.all (fun a => decide (lay a = (3, ci, kNf ci))) && (match fk ci f with
        | 0 => Nat.beq v.1 1 && (x.2.1.all (fun a => wMs M a f f && gck f f v.2.2.1 v.2.2.2.1 (tS a)) && kA (pc + 3) L (kilM x.2.1 f f R) (wrF F x.2.1 f f v.2.2.1 v.2.2.2.1))
        | 1 => Nat.beq v.1 1 && ((ile 0 v.2.2.1 && ile v.2.2.2.1 1) && (x.2.1.all (fun a => wMs M a f f && gck f f v.2.2.1 v.2.2.2.1 (tS a)) && kA (pc + 3) L (kilM x.2.1 f f R) (wrF F x.2.1 f f v.2.2.1 v.2.2.2.1)))
        | 2 => Nat.ble 2 v.1 && kA (pc + 3) L R F
        | _ => false))
      | _ => false)
    | none => false)
  | .arraylength => ((), fun tS tR M k cA kA rA pc L S F => match S with
    | x :: R => Nat.beq x.1 0 && (match x.2.1 with
      | a :: t => (a :: t).all (fun b => (Nat.beq (lay b).1 0 || Nat.beq (lay b).1 4) && Nat.beq (lay b).2.2 (lay a).2.2) && (Nat.blt (lay a).2.2 100000 && kA (pc + 1) L (aI (Int.ofNat (lay a).2.2) (Int.ofNat (lay a).2.2) :: R) F)
      | [] => true)
    | _ => false)
  | .iaload => ((), fun tS tR M k cA kA rA pc L S F => match S with
    | j :: x :: R => Nat.beq j.1 1 && (Nat.beq x.1 0 && (match x.2.1 with
      | [] => true
      | a :: t => bif Nat.beq (lay a).1 0 then (a :: t).all (fun b => decide ((lay b).1 = 0 ∧ (lay b).2.1 = 0) && ix j (lay b).2.2) && kA (pc + 1) L (rdA tS F (a :: t) j.2.2.1.toNat j.2.2.2.1.toNat :: R) F
        else Nat.beq t.length 0 && (decide ((lay a).1 = 4 ∧ (lay a).2.1 = 0) && (ix j (lay a).2.2 && kA (pc + 1) L (aI (cmn a j.2.2.1.toNat (j.2.2.2.1.toNat + 1 - j.2.2.1.toNat)).1 (cmn a j.2.2.1.toNat (j.2.2.2.1.toNat + 1 - j.2.2.1.toNat)).2 :: R) F))))
    | _ => false)
  | .baload => ((), fun tS tR M k cA kA rA pc L S F => match S with
    | j :: x :: R => Nat.beq j.1 1 && (Nat.beq x.1 0 && (x.2.1.all (fun b => decide ((lay b).1 = 0 ∧ ((lay b).2.1 = 1 ∨ (lay b).2.1 = 2)) && ix j (lay b).2.2) && kA (pc + 1) L (rdA tS F x.2.1 j.2.2.1.toNat j.2.2.2.1.toNat :: R) F))
    | _ => false)
  | .caload => ((), fun tS tR M k cA kA rA pc L S F => match S with
    | j :: x :: R => Nat.beq j.1 1 && (Nat.beq x.1 0 && (match x.2.1 with
      | [a] => decide ((lay a).1 = 4 ∧ (lay a).2.1 = 3) && (ix j (lay a).2.2 && kA (pc + 1) L (aI (cmn a j.2.2.1.toNat (j.2.2.2.1.toNat + 1 - j.2.2.1.toNat)).1 (cmn a j.2.2.1.toNat (j.2.2.2.1.toNat + 1 - j.2.2.1.toNat)).2 :: R) F)
      | _ => false))
    | _ => false)
  | .laload => ((), fun tS tR M k cA kA rA pc L S F => match S with
    | j :: x :: R => Nat.beq j.1 1 && (Nat.beq x.1 0 && (x.2.1.all (fun b => decide ((lay b).1 = 1) && ix j (lay b).2.2) && kA (pc + 1) L (aLt :: R) F))
    | _ => false)
  | .aaload => ((), fun tS tR M k cA kA rA pc L S F => match S with
    | j :: x :: R => Nat.beq j.1 1 && (Nat.beq x.1 0 && (x.2.1.all (fun b => decide ((lay b).1 = 2) && ix j (lay b).2.2) && (match rfC tR j.2.2.1.toNat (j.2.2.2.1.toNat + 1 - j.2.2.1.toNat) x.2.1 with
      | some cs => kA (pc + 1) L (aR cs :: R) F
      | none => false)))
    | _ => false)
  | .iastore => ((), fun tS tR M k cA kA rA pc L S F => match S with
    | v :: j :: x :: R => Nat.beq v.1 1 && (Nat.beq j.1 1 && (Nat.beq x.1 0 && (x.2.1.all (fun b => decide ((lay b).1 = 0 ∧ (lay b).2.1 = 0) && (ix j (lay b).2.2 && (wMs M b j.2.2.1.toNat j.2.2.2.1.toNat && gck j.2.2.1.toNat j.2.2.2.1.toNat v.2.2.1 v.2.2.2.1 (tS b)))) && kA (pc + 1) L (kilM x.2.1 j.2.2.1.toNat j.2.2.2.1.toNat R) (wrF F x.2.1 j.2.2.1.toNat j.2.2.2.1.toNat v.2.2.1 v.2.2.2.1))))
    | _ => false)
  | .bastore => ((), fun tS tR M k cA kA rA pc L S F => match S with
    | v :: j :: x :: R => Nat.beq v.1 1 && (Nat.beq j.1 1 && (Nat.beq x.1 0 && (x.2.1.all (fun b => (decide ((lay b).1 = 0 ∧ (lay b).2.1 = 2) && (ile 0 v.2.2.1 && ile v.2.2.2.1 1) || decide ((lay b).1 = 0 ∧ (lay b).2.1 = 1) && (ile (-128) v.2.2.1 && ile v.2.2.2.1 127)) && (ix j (lay b).2.2 && (wMs M b j.2.2.1.toNat j.2.2.2.1.toNat && gck j.2.2.1.toNat j.2.2.2.1.toNat v.2.2.1 v.2.2.2.1 (tS b)))) && kA (pc + 1) L (kilM x.2.1 j.2.2.1.toNat j.2.2.2.1.toNat R) (wrF F x.2.1 j.2.2.1.toNat j.2.2.2.1.toNat v.2.2.1 v.2.2.2.1))))
    | _ => false)
  | .lastore => ((), fun tS tR M k cA kA rA pc L S F => match S with
    | v :: j :: x :: R => Nat.ble 2 v.1 && (Nat.beq j.1 1 && (Nat.beq x.1 0 && (x.2.1.all (fun b => decide ((lay b).1 = 1) && ix j (lay b).2.2) && kA (pc + 1) L R F)))
    | _ => false)
  | .invokevirtual i => ((), fun tS tR M k cA kA rA pc L S F => match kCl (kcl k) i with
    | some (1, j) => match popA (knp j) S with
      | some (as, x :: R) => Nat.beq x.1 0 && (x.2.1.all (fun b => decide (lay b = (3, kcl j, kNf (kcl j)))) && (Nat.ble (R.map aCat).sum 8 && (Nat.beq (kmc j) 0 && (Nat.beq (kms j) 0 && cA j (x :: as) (fun rv fL fS fF => kA (pc + 3) (fL L) (rv.toList ++ fS R) (fF F)) F))))
      | _ => false
    | some (3, j) => match popA (knp j) S with
      | some (as, x :: R) => Nat.beq x.1 0 && (x.2.1.all (fun b => decide ((lay b).1 = 5)) && (Nat.ble (R.map aCat).sum 8 && cA j (x :: as) (fun rv fL fS fF => kA (pc + 3) (fL L) (rv.toList ++ fS R) (fF F)) F))
      | _ => false
    | _ => false)
  | .invokestatic i => ((), fun tS tR M k cA kA rA pc L S F => match kCl (kcl k) i with
    | some (2, j) => match popA (knp j) S with
      | some (as, R) => Nat.ble (R.map aCat).sum 8 && (Nat.beq (kmc j) 0 && (Nat.beq (kms j) 0 && cA j as (fun rv fL fS fF => kA (pc + 3) (fL L) (rv.toList ++ fS R) (fF F)) F))
      | none => false
    | some (5, _) => match S with
      | n :: dp :: b :: sp :: a :: R => Nat.beq n.1 1 && (Nat.beq dp.1 1 && (Nat.beq b.1 0 && (Nat.beq sp.1 1 && (Nat.beq a.1 0 && (Nat.ble (R.map aCat).sum 8 && (match cst1 dp, cst1 sp with
        | some d9, some s9 => ile 0 d9 && (ile 0 s9 && (ile 0 n.2.2.1 && (b.2.1.all (fun y => decide ((lay y).1 = 0 ∧ (lay y).2.1 = 0) && (Nat.ble (d9.toNat + n.2.2.2.1.toNat) (lay y).2.2 && (wMs M y d9.toNat (d9.toNat + n.2.2.2.1.toNat - 1) && a.2.1.all (fun z => decide ((lay z).2.1 = 0) && (Nat.ble (s9.toNat + n.2.2.2.1.toNat) (lay z).2.2 && (bif Nat.beq (lay z).1 0 then cpC tS z y s9.toNat d9.toNat n.2.2.2.1.toNat else (Nat.beq (lay z).1 4 && cpK tS z y s9.toNat d9.toNat n.2.2.2.1.toNat))))))) && kA (pc + 3) L (kilM b.2.1 d9.toNat (d9.toNat + n.2.2.2.1.toNat - 1) R) (filM b.2.1 d9.toNat (d9.toNat + n.2.2.2.1.toNat - 1) F))))
        | _, _ => false))))))
      | _ => false
    | _ => false)
  | .ireturn => ((), fun tS tR M k cA kA rA pc L S F => match S with
    | [v] => Nat.beq v.1 1 && ((Nat.beq (kr k) 1 || (Nat.beq (kr k) 2 && (ile 0 v.2.2.1 && ile v.2.2.2.1 1))) && rA (some v) L F)
    | _ => false)
  | .lreturn => ((), fun tS tR M k cA kA rA pc L S F => match S with
    | [v] => Nat.ble 2 v.1 && (Nat.beq (kr k) 4 && rA (some v) L F)
    | _ => false)
  | .return_ => ((), fun tS tR M k cA kA rA pc L S F => match S with
    | [] => Nat.beq (kr k) 0 && rA none L F
    | _ => false)
  | _ => ((), fun tS tR M k cA kA rA pc L S F => false)
def ai (tS : Nat → List (Nat × Int × Int)) (tR : Nat → Nat → Option Nat) (M : List (Nat × Nat × Nat)) (k : Nat) (cA : Nat → List aV → (Option aV → (aLs → aLs) → (List aV → List aV) → (aFs → aFs) → Bool) → aFs → Bool) (kA : Nat → aLs → List aV → aFs → Bool) (rA : Option aV → aLs → aFs → Bool) (i : Instr) (pc : Nat) (L : aLs) (S : List aV) (F : aFs) : Bool :=
  (aiP i).2 tS tR M k cA kA rA pc L S F
end NC
