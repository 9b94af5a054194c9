/-! the constructors run: an evaluator over lists; the addresses are the next ones -/
abbrev yS : Type := List (Nat × Nat × Int32) × List (Nat × Nat × Nat) × Nat
def yI : List (Nat × Nat × Int32) → Nat → Nat → Int32
  | [], _, _ => 0
  | (a, i, v) :: t, b, j => bif Nat.beq a b then (bif Nat.beq i j then v else yI t b j) else yI t b j
def yR : List (Nat × Nat × Nat) → Nat → Nat → Option Nat
  | [], _, _ => none
  | (a, i, v) :: t, b, j => bif Nat.beq a b then (bif Nat.beq i j then some v else yR t b j) else yR t b j
def ym (y : yS) : xM := (yI y.1, fun _ _ => 0, yR y.2.1)
theorem nb_if {α : Type} {a b : Nat} {x z : α} : (bif Nat.beq a b then x else z) = if b = a then x else z := by
  by_cases h : a = b
  · subst h
    simp
  · have : Nat.beq a b = false := by
      cases e : Nat.beq a b with
      | false => rfl
      | true => exact absurd (Nat.eq_of_beq_eq_true e) h
    rw [this, if_neg (fun z => h z.symm)]
    rfl
theorem yI_put {y : yS} {a i : Nat} {v : Int32} {n : Nat} : ym ((a, i, v) :: y.1, y.2.1, n) = mI (ym y) a i v := by
  have h : yI ((a, i, v) :: y.1) = u2 (yI y.1) a i v := by
    funext b j
    show (bif Nat.beq a b then (bif Nat.beq i j then v else yI y.1 b j) else yI y.1 b j) = _
    rw [nb_if, nb_if]
    unfold u2
    by_cases h1 : b = a <;> by_cases h2 : j = i <;> simp [h1, h2]
  unfold ym mI
  rw [h]
theorem yR_put {y : yS} {a i v : Nat} {n : Nat} : ym (y.1, (a, i, v) :: y.2.1, n) = mR (ym y) a i (some v) := by
  have h : yR ((a, i, v) :: y.2.1) = u2 (yR y.2.1) a i (some v) := by
    funext b j
    show (bif Nat.beq a b then (bif Nat.beq i j then some v else yR y.2.1 b j) else yR y.2.1 b j) = _
    rw [nb_if, nb_if]
    unfold u2
    by_cases h1 : b = a <;> by_cases h2 : j = i <;> simp [h1, h2]
  unfold ym mR
  rw [h]
def yfr (y : yS) : Bool := y.1.all (fun e => Nat.blt e.1 y.2.2) && y.2.1.all (fun e => Nat.blt e.1 y.2.2)
theorem blt_ne {a b : Nat} (h : Nat.blt a b = true) : Nat.beq a b = false := by
  have h1 : a < b := by simpa [Nat.blt_eq] using h
  cases e : Nat.beq a b with
  | false => rfl
  | true => exact absurd (Nat.eq_of_beq_eq_true e) (Nat.ne_of_lt h1)
theorem yI_fr {n : Nat} : ∀ {L : List (Nat × Nat × Int32)}, L.all (fun e => Nat.blt e.1 n) = true → yI L n = fun _ => 0
  | [], _ => rfl
  | (a, i, v) :: t, h => by
    simp only [List.all_cons, Bool.and_eq_true] at h
    funext j
    show (bif Nat.beq a n then _ else yI t n j) = _
    rw [blt_ne h.1, yI_fr h.2]
    rfl
theorem yR_fr {n : Nat} : ∀ {L : List (Nat × Nat × Nat)}, L.all (fun e => Nat.blt e.1 n) = true → yR L n = fun _ => none
  | [], _ => rfl
  | (a, i, v) :: t, h => by
    simp only [List.all_cons, Bool.and_eq_true] at h
    funext j
    show (bif Nat.beq a n then _ else yR t n j) = _
    rw [blt_ne h.1, yR_fr h.2]
    rfl
def ycv (n : Nat) (v : Value) : Bool := match v with
  | .ref a => Nat.blt a n || Nat.ble 1000 a
  | _ => true
def ycs (n : Nat) (l : List (Nat × Value)) (st : List Value) : Bool := l.all (fun p => ycv n p.2) && st.all (ycv n)
def ycm (n : Nat) (L : List (Nat × Nat × Nat)) : Bool := L.all (fun e => Nat.blt e.2.2 n || Nat.ble 1000 e.2.2)
def yrows (n : Nat) : Nat → List (Nat × Nat × Nat) → List (Nat × Nat × Nat)
  | 0, L => L
  | j + 1, L => (n, j, n + 1 + j) :: yrows n j L
def xtyp : ArrayType → Nat × Nat
  | .int => (0, 0)
  | .byte => (0, 1)
  | .boolean => (0, 2)
  | .long => (1, 4)
  | _ => (8, 0)
noncomputable def yo (k : Nat) (ca : Nat → List Value → yS → Option yS) (kk : Nat → List (Nat × Value) → List Value → yS → Nat → Nat → Option yS) (i : Instr) (pc : Nat) (l : List (Nat × Value)) (st : List Value) (y : yS) (c z : Nat) : Option yS :=
  match i with
  | .iconst n => kk (pc + 1) l (.int (Int32.ofInt n) :: st) y c z
  | .bipush n => kk (pc + 2) l (.int (Int8.ofInt n).toInt32 :: st) y c z
  | .sipush n => kk (pc + 3) l (.int (Int16.ofInt n).toInt32 :: st) y c z
  | .iload_n n => match lkl (n : Nat) l with
    | some (.int x) => kk (pc + 1) l (.int x :: st) y c z
    | _ => none
  | .aload_n n => match lkl (n : Nat) l with
    | some (.ref x) => kk (pc + 1) l (.ref x :: st) y c z
    | _ => none
  | .istore_n n => match st with
    | .int x :: r => bif Nat.blt (n : Nat) (knl k) then kk (pc + 1) (sv1 (n : Nat) (.int x) l) r y c z else none
    | _ => none
  | .iinc n d => match lkl n l with
    | some (.int x) => bif Nat.blt n (knl k) then kk (pc + 3) (sv1 n (.int (x + Int32.ofInt d)) l) st y c z else none
    | _ => none
  | .dup => match st with
    | .ref x :: r => kk (pc + 1) l (.ref x :: .ref x :: r) y c z
    | _ => none
  | .goto o => kk (tgt pc o) l st y c z
  | .if_icmp .ge o => match st with
    | .int b :: .int a :: r => if b ≤ a then kk (tgt pc o) l r y c z else kk (pc + 3) l r y c z
    | _ => none
  | .ldc i => match kLd (kcl k) i with
    | some (.ref a) => kk (pc + 2) l (.ref a :: st) y c z
    | _ => none
  | .getfield i => match st with
    | .ref a :: r => match kFd (kcl k) i with
      | some (ci, f) => bif decide (lay a = (3, ci, kNf ci)) && (Nat.beq (fk ci f) 3 && Nat.blt a y.2.2) then (match yR y.2.1 a f with
        | some b => kk (pc + 3) l (.ref b :: r) y c z
        | none => none) else none
      | none => none
    | _ => none
  | .putfield i => match kFd (kcl k) i with
    | some (ci, f) => match st with
      | .int x :: .ref a :: r => bif decide (lay a = (3, ci, kNf ci)) && (Nat.beq (fk ci f) 0 && (Nat.blt a y.2.2 && Nat.beq (kcl k) ci)) then kk (pc + 3) l r ((a, f, x) :: y.1, y.2.1, y.2.2) c z else none
      | .ref x :: .ref a :: r => bif decide (lay a = (3, ci, kNf ci)) && (Nat.beq (fk ci f) 3 && (Nat.blt a y.2.2 && Nat.beq (kcl k) ci)) then kk (pc + 3) l r (y.1, (a, f, x) :: y.2.1, y.2.2) c z else none
      | _ => none
    | none => none
  | .aastore => match st with
    | .ref x :: .int i :: .ref a :: r => bif decide (lay a = (2, 5, 40)) && (decide (lay x = (3, 6, kNf 6)) && (Nat.blt a y.2.2 && (Nat.blt x y.2.2 && (decide (¬ i < 0) && Nat.blt i.toNatClampNeg 40)))) then kk (pc + 1) l r (y.1, (a, i.toNatClampNeg, x) :: y.2.1, y.2.2) c z else none
    | _ => none
  | .new i => match kNw (kcl k) i with
    | some ci => bif decide (lay y.2.2 = (3, ci, kNf ci)) && (Nat.blt ci 13 && (yfr y && (ycm y.2.2 y.2.1 && ycs y.2.2 l st) && (Nat.blt y.2.2 999 && (Nat.ble (c + 1) (kmc k) && Nat.ble (z + kNf ci) (kms k))))) then kk (pc + 3) l (.ref y.2.2 :: st) (y.1, y.2.1, y.2.2 + 1) (c + 1) (z + kNf ci) else none
    | none => none
  | .newarray t => match st with
    | .int n :: r => bif decide (lay y.2.2 = ((xtyp t).1, (xtyp t).2, n.toNatClampNeg)) && (Nat.blt (xtyp t).1 2 && (decide (¬ n < 0) && (Nat.ble n.toNatClampNeg 10000 && (yfr y && (ycm y.2.2 y.2.1 && ycs y.2.2 l r) && (Nat.blt y.2.2 999 && (Nat.ble (c + 1) (kmc k) && Nat.ble (z + n.toNatClampNeg) (kms k))))))) then kk (pc + 2) l (.ref y.2.2 :: r) (y.1, y.2.1, y.2.2 + 1) (c + 1) (z + n.toNatClampNeg) else none
    | _ => none
  | .anewarray i => match st with
    | .int n :: r => bif Nat.beq (kcl k) 0 && (Nat.beq i 9 && (decide (lay y.2.2 = (2, 5, n.toNatClampNeg)) && (decide (¬ n < 0) && (Nat.ble n.toNatClampNeg 10000 && (yfr y && (ycm y.2.2 y.2.1 && ycs y.2.2 l r) && (Nat.blt y.2.2 999 && (Nat.ble (c + 1) (kmc k) && Nat.ble (z + n.toNatClampNeg) (kms k)))))))) then kk (pc + 3) l (.ref y.2.2 :: r) (y.1, y.2.1, y.2.2 + 1) (c + 1) (z + n.toNatClampNeg) else none
    | _ => none
  | .multianewarray i dm => match st with
    | .int w :: .int n :: r => match kNw (kcl k) i with
      | some ci => bif Nat.beq dm 2 && Nat.beq ci 50 && (decide (lay y.2.2 = (2, 6, n.toNatClampNeg)) && ((List.range n.toNatClampNeg).all (fun j => decide (lay (y.2.2 + 1 + j) = (0, 0, w.toNatClampNeg))) && (decide (¬ n < 0) && (decide (¬ w < 0) && (Nat.ble n.toNatClampNeg 10000 && (Nat.ble w.toNatClampNeg 10000 && (yfr y && (ycm y.2.2 y.2.1 && ycs y.2.2 l r) && (Nat.blt (y.2.2 + n.toNatClampNeg) 999 && (Nat.ble (c + (1 + n.toNatClampNeg)) (kmc k) && Nat.ble (z + (n.toNatClampNeg + n.toNatClampNeg * w.toNatClampNeg)) (kms k)))))))))) then kk (pc + 4) l (.ref y.2.2 :: r) (y.1, yrows y.2.2 n.toNatClampNeg y.2.1, y.2.2 + 1 + n.toNatClampNeg) (c + 1 + n.toNatClampNeg) (z + n.toNatClampNeg + n.toNatClampNeg * w.toNatClampNeg) else none
      | none => none
    | _ => none
  | .invokespecial i => match kCl (kcl k) i with
    | some (4, _) => match st with
      | .ref a :: r => bif Nat.ble (r.map fun v => v.category).sum 8 then kk (pc + 3) l r y c z else none
      | _ => none
    | some (6, j) => match pops (knp j) st with
      | some (as, .ref b :: r) => bif Nat.ble (r.map fun v => v.category).sum 8 && (ycs y.2.2 l r && Nat.ble (c + kmc j) (kmc k) && Nat.ble (z + kms j) (kms k)) then (match ca j (.ref b :: as) y with
        | some y' => bif Nat.ble y'.2.2 999 && Nat.ble y.2.2 y'.2.2 then kk (pc + 3) l r y' (c + kmc j) (z + kms j) else none
        | none => none) else none
      | _ => none
    | _ => none
  | .return_ => match st with
    | [] => bif Nat.beq c (kmc k) && Nat.beq z (kms k) then some y else none
    | _ => none
  | _ => none
noncomputable def ye (k : Nat) (ca : Nat → List Value → yS → Option yS) : Nat → Nat → List (Nat × Value) → List Value → yS → Nat → Nat → Option yS
  | 0, _, _, _, _, _, _ => none
  | n + 1, pc, l, st, y, c, z => match lkc pc (kcode k) with
    | some i => yo k ca (ye k ca n) i pc l st y c z
    | none => none
noncomputable def yw : Nat → Nat → List Value → yS → Option yS
  | 0, _, _, _ => none
  | d + 1, k, as, y => bif Nat.blt k 265 && (kin k && (Nat.beq (kr k) 0 && Nat.ble (lg_sl as).length (knl k))) then ye k (yw d) 1000 0 (lv_args 0 as) [] y 0 0 else none
