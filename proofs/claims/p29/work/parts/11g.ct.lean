/-! L2: contracts by intervals: a table, a check of a method's blocks, what the check says -/
noncomputable section NC
/-- method, arguments, places of the memory known at the start, ends (answer, what it says of the arguments, places known then), places that it may write -/
abbrev aCt : Type := Nat × List aV × aFs × List (Option aV × List (Int × Int) × aFs) × List (Nat × Nat × Nat)
abbrev aRk : Type := List (Nat × Int × Int × Bool)
/-- pc, locals, places, a number, what falls: local j by w against B (rising or falling) -/
abbrev aNd : Type := Nat × aLs × aFs × Int × aRk
def aLe (v w : aV) : Bool := w.2.2.2.2.2.isNone && (bif Nat.beq w.1 0 then Nat.beq v.1 0 && v.2.1.all (fun c => w.2.1.any (fun d => Nat.beq d c)) else bif Nat.beq w.1 1 then Nat.beq v.1 1 && (ile w.2.2.1 v.2.2.1 && ile v.2.2.2.1 w.2.2.2.1) else bif Nat.beq w.1 2 then (Nat.beq v.1 2 || Nat.beq v.1 3) && (ile w.2.2.1 v.2.2.1 && ile v.2.2.2.1 w.2.2.2.1) else Nat.beq w.1 3 && (Nat.beq v.1 3 && (ile w.2.2.1 v.2.2.1 && ile v.2.2.2.1 w.2.2.2.1)))
def aLes : List aV → List aV → Bool
  | [], [] => true
  | v :: S, w :: T => aLe v w && aLes S T
  | _, _ => false
def fLe (tS : Nat → List (Nat × Int × Int)) (F : aFs) (l : aFs) : Bool := List.rec (motive := fun _ => Bool) true (fun q _ ih => (ile q.2.2.1 (rd1 tS F q.1 q.2.1).1 && ile (rd1 tS F q.1 q.2.1).2 q.2.2.2) && ih) l
def lLe (L : aLs) (l : aLs) : Bool := List.rec (motive := fun _ => Bool) true (fun q _ ih => (match lkA q.1 L with
    | some v => aLe v q.2
    | none => false) && ih) l
def kMs (l : List (Nat × Nat × Nat)) (S : List aV) : List aV := List.rec (motive := fun _ => List aV) S (fun q _ ih => kilM [q.1] q.2.1 (q.2.2 - 1) ih) l
def fMs (l : List (Nat × Nat × Nat)) (F : aFs) : aFs := List.rec (motive := fun _ => aFs) F (fun q _ ih => filM [q.1] q.2.1 (q.2.2 - 1) ih) l
def rArgs : List aV → List (Int × Int) → aLs → aLs
  | a :: as, r :: rs, L => rArgs as rs (bif Nat.beq a.1 1 then rfLs a.2.2.2.2.1 r.1 r.2 L else bif Nat.ble 2 a.1 && Nat.beq a.2.2.2.2.1.1 1 then rfL a.2.2.2.2.1.2.1 r.1 r.2 L else L)
  | _, _, L => L
def aCl (v : aV) : aV := (v.1, v.2.1, v.2.2.1, v.2.2.2.1, (0, 0, 0), none)
/-- what is known at an end, with what was known before -/
def meF (tS : Nat → List (Nat × Int × Int)) (F : aFs) (l : aFs) : aFs := List.rec (motive := fun _ => aFs) [] (fun q _ ih => (q.1, q.2.1, imax (rd1 tS F q.1 q.2.1).1 q.2.2.1, imin (rd1 tS F q.1 q.2.1).2 q.2.2.2) :: ih) l
def callA (tS : Nat → List (Nat × Int × Int)) (T : List aCt) (M : List (Nat × Nat × Nat)) (j : Nat) (as : List aV) (Ka : Option aV → (aLs → aLs) → (List aV → List aV) → (aFs → aFs) → Bool) (F : aFs) : Bool :=
  match qfd (fun c => Nat.beq c.1 j && (aLes as c.2.1 && fLe tS F c.2.2.1)) T with
  | some c => qal (fun q => qan (fun r => Nat.beq r.1 q.1 && (Nat.ble r.2.1 q.2.1 && Nat.ble q.2.2 r.2.2)) M) c.2.2.2.2 && qal (fun o => Ka (o.1.map aCl) (rArgs as o.2.1) (kMs c.2.2.2.2) (fun F => meF tS (fMs c.2.2.2.2 F) o.2.2 ++ fMs c.2.2.2.2 F)) c.2.2.2.1
  | none => false
/-- the ends: an answer below one of them -/
def retA (tS : Nat → List (Nat × Int × Int)) (outs : List (Option aV × List (Int × Int) × aFs)) (arg : Bool) (ps : List (Nat × Bool)) (rv : Option aV) (L : aLs) (F : aFs) : Bool :=
  outs.any (fun o => (match rv, o.1 with
    | none, none => true
    | some v, some w => aLe v w
    | _, _ => false) && (fLe tS F o.2.2 && agA arg ps o.2.1 L))
where
  agA (arg : Bool) : List (Nat × Bool) → List (Int × Int) → aLs → Bool
    | p :: ps, r :: rs, L => ((ile r.1 lLo && ile lHi r.2) || (arg && (p.2 && (match lkA p.1 L with
      | some v => (match v.2.2.2.2.2 with
        | some (q, d) => Nat.beq q p.1 && (ile 0 d && (ile d 0 && (Nat.beq v.1 1 && (ile r.1 v.2.2.1 && ile v.2.2.2.1 r.2))))
        | none => false)
      | none => false)))) && agA arg ps rs L
    | _, [], _ => true
    | [], _ :: _, _ => false
def rEq (q r : Nat × Int × Int × Bool) : Bool := Nat.beq q.1 r.1 && (decide (q.2.1 = r.2.1) && (decide (q.2.2.1 = r.2.2.1) && decide (q.2.2.2 = r.2.2.2)))
def rkE (r : Nat × Int × Int × Bool) : aRk → Option aRk
  | [] => none
  | q :: t => bif rEq q r then some t else (match rkE r t with
    | some s => some (q :: s)
    | none => none)
def rkD (L : aLs) : aRk → aRk → Option Int
  | _, [] => some 0
  | R, r :: t => match lkA r.1 L with
    | none => none
    | some v => match rkE r R with
      | some R' => (match v.2.2.2.2.2 with
        | some (q, d) => (match rkD L R' t with
          | some s => bif Nat.beq q r.1 && Nat.beq v.1 1 then some (s + (bif r.2.2.2 then -(r.2.1 * d) else r.2.1 * d)) else none
          | none => none)
        | none => none)
      | none => (match rkD L R t with
        | some s => bif Nat.beq v.1 1 then some (s + (bif r.2.2.2 then r.2.1 * (r.2.2.1 - v.2.2.1) else r.2.1 * (v.2.2.2.1 - r.2.2.1))) else none
        | none => none)
def ndM (cur : Option (Int × aRk)) (nd : aNd) (L : aLs) : Bool := match cur with
  | none => true
  | some (c, R) => match rkD L R nd.2.2.2.2 with
    | some s => ile (nd.2.2.2.1 + s + 1) c
    | none => false
def ndA (tS : Nat → List (Nat × Int × Int)) (N : List aNd) (cur : Option (Int × aRk)) (pc : Nat) (L : aLs) (F : aFs) : Bool := N.any (fun nd => Nat.beq nd.1 pc && (lLe L nd.2.1 && (fLe tS F nd.2.2.1 && ndM cur nd L)))
def spA (tS : Nat → List (Nat × Int × Int)) (N : List aNd) (cur : Option (Int × aRk)) (pc j : Nat) (L : aLs) (F : aFs) (lo : Int) : Nat → Bool
  | 0 => true
  | n + 1 => ndA tS N cur pc (rfL j (lo + n) (lo + n) L) F && spA tS N cur pc j L F lo n
def cutA (tS : Nat → List (Nat × Int × Int)) (N : List aNd) (sp : List (Nat × Nat)) (cur : Option (Int × aRk)) (pc : Nat) (L : aLs) (F : aFs) : Bool :=
  match sp.find? (fun q => Nat.beq q.1 pc) with
  | some q => match lkA q.2 L with
    | some v => Nat.beq v.1 1 && spA tS N cur pc q.2 L F v.2.2.1 (v.2.2.2.1 + 1 - v.2.2.1).toNat
    | none => false
  | none => ndA tS N cur pc L F
/-- a number, worked out first -/
def nF (n : Nat) (f : Nat → Bool) : Bool := match n with
  | 0 => f 0
  | k + 1 => f (k + 1)
theorem nF_eq {n : Nat} {f : Nat → Bool} : nF n f = f n := by cases n <;> rfl
/-- the blocks' starts as bits, so that a step asks one number -/
def msk (N : List aNd) : Nat := List.rec (motive := fun _ => Nat) 0 (fun q _ ih => Nat.lor (Nat.shiftLeft 1 q.1) ih) N
def isN (k pc : Nat) : Bool := Nat.beq (Nat.land (Nat.shiftRight k pc) 1) 1
def wkA (tS : Nat → List (Nat × Int × Int)) (tR : Nat → Nat → Option Nat) (T : List aCt) (c : aCt) (ps : List (Nat × Bool)) (N : List aNd) (sp : List (Nat × Nat)) (cur : Option (Int × aRk)) (n : Nat) : Bool → Nat → aLs → List aV → aFs → Bool := Nat.rec (motive := fun _ => Bool → Nat → aLs → List aV → aFs → Bool) (fun _ _ _ _ _ => false) (fun _ ih fst pc L S F => bif !fst && isN (msk N) pc then (match S with
      | [] => cutA tS N sp cur pc L F
      | _ => false)
    else nF c.1 (fun k => nF pc (fun p => match lkc p (kcode k) with
      | some i => ai tS tR c.2.2.2.2 k (callA tS T c.2.2.2.2) (ih false) (retA tS c.2.2.2.1 cur.isNone ps) i p L S F
      | none => false))) n
def tagL : aLs → aLs
  | [] => []
  | (j, v) :: t => (j, (v.1, v.2.1, v.2.2.1, v.2.2.2.1, (0, 0, 0), bif Nat.beq v.1 1 then some (j, 0) else none)) :: tagL t
def argL : Nat → List aV → aLs
  | _, [] => []
  | i, v :: vs => (i, aNs v) :: argL (bif Nat.ble 2 v.1 then i + 2 else i + 1) vs
def argP : Nat → List aV → List (Nat × Bool)
  | _, [] => []
  | i, v :: vs => (i, Nat.beq v.1 1) :: argP (bif Nat.ble 2 v.1 then i + 2 else i + 1) vs
def wfN (nd : aNd) : Bool := ile 0 nd.2.2.2.1 && nd.2.2.2.2.all (fun r => ile 0 r.2.1 && (match lkA r.1 nd.2.1 with
  | some v => Nat.beq v.1 1 && (bif r.2.2.2 then ile v.2.2.2.1 r.2.2.1 else ile r.2.2.1 v.2.2.1)
  | none => false))
def noT (L : aLs) : Bool := L.all (fun p => p.2.2.2.2.2.2.isNone)
/-- a method's contract, by its blocks: fu instructions a block at most -/
def chk (tS : Nat → List (Nat × Int × Int)) (tR : Nat → Nat → Option Nat) (fu : Nat) (T : List aCt) (c : aCt) (N : List aNd) (sp : List (Nat × Nat)) : Bool :=
  Nat.blt c.1 271 && (Nat.beq (kmc c.1) 0 && (Nat.beq (kms c.1) 0 && (Nat.ble (c.2.1.map aCat).sum (knl c.1) && (c.2.1.all (fun v => v.2.2.2.2.2.isNone) && (N.all (fun nd => wfN nd && noT nd.2.1) && (wkA tS tR T c (argP 0 c.2.1) N sp none fu false 0 (tagL (argL 0 c.2.1)) [] c.2.2.1 && N.all (fun nd => wkA tS tR T c (argP 0 c.2.1) N sp (some (nd.2.2.2.1, nd.2.2.2.2)) fu true nd.1 (tagL nd.2.1) [] nd.2.2.1)))))))
/-- the same, the start by the values of one place -/
def chkV (tS : Nat → List (Nat × Int × Int)) (tR : Nat → Nat → Option Nat) (fu : Nat) (T : List aCt) (c : aCt) (N : List aNd) (sp : List (Nat × Nat)) (a i : Nat) (lo : Int) (n : Nat) : Bool :=
  Nat.blt c.1 271 && (Nat.beq (kmc c.1) 0 && (Nat.beq (kms c.1) 0 && (Nat.ble (c.2.1.map aCat).sum (knl c.1) && ((ile lo (gseg i (tS a)).1 && ile (gseg i (tS a)).2 (lo + n - 1)) && (N.all (fun nd => wfN nd && noT nd.2.1) && ((List.range n).all (fun q => wkA tS tR T c (argP 0 c.2.1) N sp none fu false 0 (tagL (argL 0 c.2.1)) [] ((a, i, lo + q, lo + q) :: c.2.2.1)) && N.all (fun nd => wkA tS tR T c (argP 0 c.2.1) N sp (some (nd.2.2.2.1, nd.2.2.2.2)) fu true nd.1 (tagL nd.2.1) [] nd.2.2.1)))))))
end NC
