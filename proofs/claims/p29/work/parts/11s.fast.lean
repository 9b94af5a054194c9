/-! the checker told by the recursors alone: the same, but worked out faster -/
noncomputable section NC
def zA (a b : Bool) : Bool := Bool.rec (motive := fun _ => Bool) false b a
def zO (a b : Bool) : Bool := Bool.rec (motive := fun _ => Bool) b true a
def zN (a : Bool) : Bool := Bool.rec (motive := fun _ => Bool) true false a
def zI {α : Type} (c : Bool) (x y : α) : α := Bool.rec (motive := fun _ => α) y x c
theorem zA_eq : zA = and := by
  funext a b
  cases a <;> rfl
theorem zO_eq : zO = or := by
  funext a b
  cases a <;> rfl
theorem zN_eq : zN = not := by
  funext a
  cases a <;> rfl
theorem zI_eq : @zI = fun {α : Type} (c : Bool) (x y : α) => cond c x y := by
  funext α c x y
  cases c <;> rfl
def ileF (a b : Int) : Bool := Int.rec (motive := fun _ => Bool) (fun a => Int.rec (motive := fun _ => Bool) (fun b => Nat.ble a b) (fun _ => false) b) (fun a => Int.rec (motive := fun _ => Bool) (fun _ => true) (fun b => Nat.ble b a) b) a
theorem ileF_eq : ileF = ile := by
  funext a b
  cases a <;> cases b <;> rfl
def imaxF (a b : Int) : Int := (zI (ileF a b) b a)
theorem imaxF_eq : @imaxF = @imax := by
  delta imaxF
  simp only [zA_eq, zO_eq, zN_eq, zI_eq, ileF_eq]
  rfl
def iminF (a b : Int) : Int := (zI (ileF a b) a b)
theorem iminF_eq : @iminF = @imin := by
  delta iminF
  simp only [zA_eq, zO_eq, zN_eq, zI_eq, ileF_eq, imaxF_eq]
  rfl
def lkAF (j : Nat) (l : aLs) : Option aV := List.rec (motive := fun _ => Option aV) none (fun q _ ih => (zI (Nat.beq q.1 j) (some q.2) ih)) l
theorem lkAF_eq : @lkAF = @lkA := by
  delta lkAF
  simp only [zA_eq, zO_eq, zN_eq, zI_eq, ileF_eq, imaxF_eq, iminF_eq]
  rfl
def fctF (a i : Nat) (l : List (Nat × Nat × Int × Int)) : Option (Int × Int) := List.rec (motive := fun _ => Option (Int × Int)) none (fun q _ ih => (zI (zA (Nat.beq a q.1) (Nat.beq i q.2.1)) (some (q.2.2.1, q.2.2.2)) ih)) l
theorem fctF_eq : @fctF = @fct := by
  delta fctF
  simp only [zA_eq, zO_eq, zN_eq, zI_eq, ileF_eq, imaxF_eq, iminF_eq, lkAF_eq]
  rfl
def gsegF (i : Nat) (l : List (Nat × Int × Int)) : Int × Int := List.rec (motive := fun _ => Int × Int) (iLo, iHi) (fun q _ ih => (zI (Nat.blt i q.1) (q.2.1, q.2.2) ih)) l
theorem gsegF_eq : @gsegF = @gseg := by
  delta gsegF
  simp only [zA_eq, zO_eq, zN_eq, zI_eq, ileF_eq, imaxF_eq, iminF_eq, lkAF_eq, fctF_eq]
  rfl
def gjoF (i0 i1 : Nat) (l : List (Nat × Int × Int)) : Int × Int := List.rec (motive := fun _ => Int × Int) (iLo, iHi) (fun q _ ih => (zI (Nat.blt i1 q.1) (q.2.1, q.2.2) (zI (Nat.ble q.1 i0) ih (iminF q.2.1 ih.1, imaxF q.2.2 ih.2)))) l
theorem gjoF_eq : @gjoF = @gjo := by
  delta gjoF
  simp only [zA_eq, zO_eq, zN_eq, zI_eq, ileF_eq, imaxF_eq, iminF_eq, lkAF_eq, fctF_eq, gsegF_eq]
  rfl
def gckF (i0 i1 : Nat) (lo' hi' : Int) (l : List (Nat × Int × Int)) : Bool := List.rec (motive := fun _ => Bool) true (fun q _ ih => (zI (Nat.blt i1 q.1) (zA (ileF q.2.1 lo') (ileF hi' q.2.2)) (zI (Nat.ble q.1 i0) ih (zA ((zA (ileF q.2.1 lo') (ileF hi' q.2.2))) ih)))) l
theorem gckF_eq : @gckF = @gck := by
  delta gckF
  simp only [zA_eq, zO_eq, zN_eq, zI_eq, ileF_eq, imaxF_eq, iminF_eq, lkAF_eq, fctF_eq, gsegF_eq, gjoF_eq]
  rfl
def rd1F (tS : Nat → List (Nat × Int × Int)) (F : aFs) (a i : Nat) : Int × Int := match fctF a i F with | some r => r | none => gsegF i (tS a)
theorem rd1F_eq : @rd1F = @rd1 := by
  delta rd1F
  simp only [zA_eq, zO_eq, zN_eq, zI_eq, ileF_eq, imaxF_eq, iminF_eq, lkAF_eq, fctF_eq, gsegF_eq, gjoF_eq, gckF_eq]
  rfl
def rdAF (tS : Nat → List (Nat × Int × Int)) (F : aFs) (cs : List Nat) (i0 i1 : Nat) : aV := match cs with | [a] => (zI (Nat.beq i0 i1) (1, [], (rd1F tS F a i0).1, (rd1F tS F a i0).2, (2, a, i0), none) (aI (gjoF i0 i1 (tS a)).1 (gjoF i0 i1 (tS a)).2)) | _ => aI (rdJ tS i0 i1 cs).1 (rdJ tS i0 i1 cs).2
theorem rdAF_eq : @rdAF = @rdA := by
  delta rdAF
  simp only [zA_eq, zO_eq, zN_eq, zI_eq, ileF_eq, imaxF_eq, iminF_eq, lkAF_eq, fctF_eq, gsegF_eq, gjoF_eq, gckF_eq, rd1F_eq]
  rfl
def qflF {α : Type} (p : α → Bool) (l : List α) : List α := List.rec (motive := fun _ => List α) [] (fun q _ ih => (zI (p q) (q :: ih) ih)) l
theorem qflF_eq : @qflF = @qfl := by
  delta qflF
  simp only [zA_eq, zO_eq, zN_eq, zI_eq, ileF_eq, imaxF_eq, iminF_eq, lkAF_eq, fctF_eq, gsegF_eq, gjoF_eq, gckF_eq, rd1F_eq, rdAF_eq]
  rfl
def qanF {α : Type} (p : α → Bool) (l : List α) : Bool := List.rec (motive := fun _ => Bool) false (fun q _ ih => (zO (p q) ih)) l
theorem qanF_eq : @qanF = @qan := by
  delta qanF
  simp only [zA_eq, zO_eq, zN_eq, zI_eq, ileF_eq, imaxF_eq, iminF_eq, lkAF_eq, fctF_eq, gsegF_eq, gjoF_eq, gckF_eq, rd1F_eq, rdAF_eq, qflF_eq]
  rfl
def qalF {α : Type} (p : α → Bool) (l : List α) : Bool := List.rec (motive := fun _ => Bool) true (fun q _ ih => (zA (p q) ih)) l
theorem qalF_eq : @qalF = @qal := by
  delta qalF
  simp only [zA_eq, zO_eq, zN_eq, zI_eq, ileF_eq, imaxF_eq, iminF_eq, lkAF_eq, fctF_eq, gsegF_eq, gjoF_eq, gckF_eq, rd1F_eq, rdAF_eq, qflF_eq, qanF_eq]
  rfl
def qfdF {α : Type} (p : α → Bool) (l : List α) : Option α := List.rec (motive := fun _ => Option α) none (fun q _ ih => (zI (p q) (some q) ih)) l
theorem qfdF_eq : @qfdF = @qfd := by
  delta qfdF
  simp only [zA_eq, zO_eq, zN_eq, zI_eq, ileF_eq, imaxF_eq, iminF_eq, lkAF_eq, fctF_eq, gsegF_eq, gjoF_eq, gckF_eq, rd1F_eq, rdAF_eq, qflF_eq, qanF_eq, qalF_eq]
  rfl
def sdjF (j : Nat) (v : aV) : Bool := (zO ((zA (Nat.beq v.2.2.2.2.1.1 1) (Nat.beq v.2.2.2.2.1.2.1 j))) ((zA ((zO (Nat.beq v.2.2.2.2.1.1 3) ((zA (Nat.beq v.2.2.2.2.1.1 2) (Nat.ble 2 v.1))))) ((zO (Nat.beq v.2.2.2.2.1.2.1 j) (Nat.beq (v.2.2.2.2.1.2.1 + 1) j))))))
theorem sdjF_eq : @sdjF = @sdj := by
  delta sdjF
  simp only [zA_eq, zO_eq, zN_eq, zI_eq, ileF_eq, imaxF_eq, iminF_eq, lkAF_eq, fctF_eq, gsegF_eq, gjoF_eq, gckF_eq, rd1F_eq, rdAF_eq, qflF_eq, qanF_eq, qalF_eq, qfdF_eq]
  rfl
def kilJF (j : Nat) (S : List aV) : List aV := qmp (fun v => (zI (sdjF j v) (aNs v) v)) S
theorem kilJF_eq : @kilJF = @kilJ := by
  delta kilJF
  simp only [zA_eq, zO_eq, zN_eq, zI_eq, ileF_eq, imaxF_eq, iminF_eq, lkAF_eq, fctF_eq, gsegF_eq, gjoF_eq, gckF_eq, rd1F_eq, rdAF_eq, qflF_eq, qanF_eq, qalF_eq, qfdF_eq, sdjF_eq]
  rfl
def sdmF (c i0 i1 : Nat) (v : aV) : Bool := (zA (Nat.beq v.2.2.2.2.1.1 2) ((zA (Nat.beq v.1 1) ((zA (Nat.beq v.2.2.2.2.1.2.1 c) ((zA (Nat.ble i0 v.2.2.2.2.1.2.2) (Nat.ble v.2.2.2.2.1.2.2 i1))))))))
theorem sdmF_eq : @sdmF = @sdm := by
  delta sdmF
  simp only [zA_eq, zO_eq, zN_eq, zI_eq, ileF_eq, imaxF_eq, iminF_eq, lkAF_eq, fctF_eq, gsegF_eq, gjoF_eq, gckF_eq, rd1F_eq, rdAF_eq, qflF_eq, qanF_eq, qalF_eq, qfdF_eq, sdjF_eq, kilJF_eq]
  rfl
def kilMF (cs : List Nat) (i0 i1 : Nat) (S : List aV) : List aV := qmp (fun v => (zI (qanF (fun c => sdmF c i0 i1 v) cs) (aNs v) v)) S
theorem kilMF_eq : @kilMF = @kilM := by
  delta kilMF
  simp only [zA_eq, zO_eq, zN_eq, zI_eq, ileF_eq, imaxF_eq, iminF_eq, lkAF_eq, fctF_eq, gsegF_eq, gjoF_eq, gckF_eq, rd1F_eq, rdAF_eq, qflF_eq, qanF_eq, qalF_eq, qfdF_eq, sdjF_eq, kilJF_eq, sdmF_eq]
  rfl
def filMF (cs : List Nat) (i0 i1 : Nat) (F : aFs) : aFs := qflF (fun f => (zN (qanF (fun c => (zA (Nat.beq f.1 c) ((zA (Nat.ble i0 f.2.1) (Nat.ble f.2.1 i1))))) cs))) F
theorem filMF_eq : @filMF = @filM := by
  delta filMF
  simp only [zA_eq, zO_eq, zN_eq, zI_eq, ileF_eq, imaxF_eq, iminF_eq, lkAF_eq, fctF_eq, gsegF_eq, gjoF_eq, gckF_eq, rd1F_eq, rdAF_eq, qflF_eq, qanF_eq, qalF_eq, qfdF_eq, sdjF_eq, kilJF_eq, sdmF_eq, kilMF_eq]
  rfl
def wMsF (M : List (Nat × Nat × Nat)) (c i0 i1 : Nat) : Bool := qanF (fun q => (zA (Nat.beq q.1 c) ((zA (Nat.ble q.2.1 i0) (Nat.blt i1 q.2.2))))) M
theorem wMsF_eq : @wMsF = @wMs := by
  delta wMsF
  simp only [zA_eq, zO_eq, zN_eq, zI_eq, ileF_eq, imaxF_eq, iminF_eq, lkAF_eq, fctF_eq, gsegF_eq, gjoF_eq, gckF_eq, rd1F_eq, rdAF_eq, qflF_eq, qanF_eq, qalF_eq, qfdF_eq, sdjF_eq, kilJF_eq, sdmF_eq, kilMF_eq, filMF_eq]
  rfl
def lngAF (j : Nat) (L : aLs) : Bool := Nat.rec (motive := fun _ => Bool) false (fun i _ => Option.rec (motive := fun _ => Bool) false (fun v => Nat.ble 2 v.1) (lkAF i L)) j
theorem lngAF_eq : lngAF = lngA := by
  funext j L
  unfold lngAF
  rw [lkAF_eq]
  cases j with
  | zero => rfl
  | succ i =>
    unfold lngA
    cases h : lkA i L <;> simp only [h]
def st1AF (j : Nat) (v : aV) (L : aLs) : aLs := (j, aNs v) :: qflF (fun p => (zA (zN (Nat.beq p.1 j)) (zN ((zA (Nat.beq (p.1 + 1) j) (lngAF j L)))))) L
theorem st1AF_eq : @st1AF = @st1A := by
  delta st1AF
  simp only [zA_eq, zO_eq, zN_eq, zI_eq, ileF_eq, imaxF_eq, iminF_eq, lkAF_eq, fctF_eq, gsegF_eq, gjoF_eq, gckF_eq, rd1F_eq, rdAF_eq, qflF_eq, qanF_eq, qalF_eq, qfdF_eq, sdjF_eq, kilJF_eq, sdmF_eq, kilMF_eq, filMF_eq, wMsF_eq, lngAF_eq]
  rfl
def st2AF (j : Nat) (v : aV) (L : aLs) : aLs := (j, aNs v) :: qflF (fun p => (zA (zN (Nat.beq p.1 j)) ((zA (zN (Nat.beq p.1 (j + 1))) (zN ((zA (Nat.beq (p.1 + 1) j) (lngAF j L)))))))) L
theorem st2AF_eq : @st2AF = @st2A := by
  delta st2AF
  simp only [zA_eq, zO_eq, zN_eq, zI_eq, ileF_eq, imaxF_eq, iminF_eq, lkAF_eq, fctF_eq, gsegF_eq, gjoF_eq, gckF_eq, rd1F_eq, rdAF_eq, qflF_eq, qanF_eq, qalF_eq, qfdF_eq, sdjF_eq, kilJF_eq, sdmF_eq, kilMF_eq, filMF_eq, wMsF_eq, lngAF_eq, st1AF_eq]
  rfl
def wrFF (F : aFs) (cs : List Nat) (i0 i1 : Nat) (lo hi : Int) : aFs := match cs with | [a] => (zI (Nat.beq i0 i1) ((a, i0, lo, hi) :: filMF [a] i0 i1 F) (filMF [a] i0 i1 F)) | _ => filMF cs i0 i1 F
theorem wrFF_eq : @wrFF = @wrF := by
  delta wrFF
  simp only [zA_eq, zO_eq, zN_eq, zI_eq, ileF_eq, imaxF_eq, iminF_eq, lkAF_eq, fctF_eq, gsegF_eq, gjoF_eq, gckF_eq, rd1F_eq, rdAF_eq, qflF_eq, qanF_eq, qalF_eq, qfdF_eq, sdjF_eq, kilJF_eq, sdmF_eq, kilMF_eq, filMF_eq, wMsF_eq, lngAF_eq, st1AF_eq, st2AF_eq]
  rfl
def rfLF (j : Nat) (lo hi : Int) (l : aLs) : aLs := List.rec (motive := fun _ => aLs) [] (fun q t ih => (zI (Nat.beq q.1 j) ((zI (Nat.beq q.2.1 1) ((q.1, (1, [], imaxF q.2.2.2.1 lo, iminF q.2.2.2.2.1 hi, (0, 0, 0), q.2.2.2.2.2.2)) :: t) (q :: t))) (q :: ih))) l
theorem rfLF_eq : @rfLF = @rfL := by
  delta rfLF
  simp only [zA_eq, zO_eq, zN_eq, zI_eq, ileF_eq, imaxF_eq, iminF_eq, lkAF_eq, fctF_eq, gsegF_eq, gjoF_eq, gckF_eq, rd1F_eq, rdAF_eq, qflF_eq, qanF_eq, qalF_eq, qfdF_eq, sdjF_eq, kilJF_eq, sdmF_eq, kilMF_eq, filMF_eq, wMsF_eq, lngAF_eq, st1AF_eq, st2AF_eq, wrFF_eq]
  rfl
def rfLsF (s : aS) (lo hi : Int) (L : aLs) : aLs := match s with | (1, j, _) => rfLF j lo hi L | _ => L
theorem rfLsF_eq : @rfLsF = @rfLs := by
  delta rfLsF
  simp only [zA_eq, zO_eq, zN_eq, zI_eq, ileF_eq, imaxF_eq, iminF_eq, lkAF_eq, fctF_eq, gsegF_eq, gjoF_eq, gckF_eq, rd1F_eq, rdAF_eq, qflF_eq, qanF_eq, qalF_eq, qfdF_eq, sdjF_eq, kilJF_eq, sdmF_eq, kilMF_eq, filMF_eq, wMsF_eq, lngAF_eq, st1AF_eq, st2AF_eq, wrFF_eq, rfLF_eq]
  rfl
def rfFsF (tS : Nat → List (Nat × Int × Int)) (s : aS) (lo hi : Int) (F : aFs) : aFs := match s with | (2, a, i) => ((a, i, imaxF (rd1F tS F a i).1 lo, iminF (rd1F tS F a i).2 hi) :: F) | _ => F
theorem rfFsF_eq : @rfFsF = @rfFs := by
  delta rfFsF
  simp only [zA_eq, zO_eq, zN_eq, zI_eq, ileF_eq, imaxF_eq, iminF_eq, lkAF_eq, fctF_eq, gsegF_eq, gjoF_eq, gckF_eq, rd1F_eq, rdAF_eq, qflF_eq, qanF_eq, qalF_eq, qfdF_eq, sdjF_eq, kilJF_eq, sdmF_eq, kilMF_eq, filMF_eq, wMsF_eq, lngAF_eq, st1AF_eq, st2AF_eq, wrFF_eq, rfLF_eq, rfLsF_eq]
  rfl
def inIF (lo hi : Int) : Bool := (zA (ileF iLo lo) (ileF hi iHi))
theorem inIF_eq : @inIF = @inI := by
  delta inIF
  simp only [zA_eq, zO_eq, zN_eq, zI_eq, ileF_eq, imaxF_eq, iminF_eq, lkAF_eq, fctF_eq, gsegF_eq, gjoF_eq, gckF_eq, rd1F_eq, rdAF_eq, qflF_eq, qanF_eq, qalF_eq, qfdF_eq, sdjF_eq, kilJF_eq, sdmF_eq, kilMF_eq, filMF_eq, wMsF_eq, lngAF_eq, st1AF_eq, st2AF_eq, wrFF_eq, rfLF_eq, rfLsF_eq, rfFsF_eq]
  rfl
def inLF (lo hi : Int) : Bool := (zA (ileF lLo lo) (ileF hi lHi))
theorem inLF_eq : @inLF = @inL := by
  delta inLF
  simp only [zA_eq, zO_eq, zN_eq, zI_eq, ileF_eq, imaxF_eq, iminF_eq, lkAF_eq, fctF_eq, gsegF_eq, gjoF_eq, gckF_eq, rd1F_eq, rdAF_eq, qflF_eq, qanF_eq, qalF_eq, qfdF_eq, sdjF_eq, kilJF_eq, sdmF_eq, kilMF_eq, filMF_eq, wMsF_eq, lngAF_eq, st1AF_eq, st2AF_eq, wrFF_eq, rfLF_eq, rfLsF_eq, rfFsF_eq, inIF_eq]
  rfl
def cst1F (v : aV) : Option Int := (zI (zA (ileF v.2.2.1 v.2.2.2.1) (ileF v.2.2.2.1 v.2.2.1)) (some v.2.2.1) none)
theorem cst1F_eq : @cst1F = @cst1 := by
  delta cst1F
  simp only [zA_eq, zO_eq, zN_eq, zI_eq, ileF_eq, imaxF_eq, iminF_eq, lkAF_eq, fctF_eq, gsegF_eq, gjoF_eq, gckF_eq, rd1F_eq, rdAF_eq, qflF_eq, qanF_eq, qalF_eq, qfdF_eq, sdjF_eq, kilJF_eq, sdmF_eq, kilMF_eq, filMF_eq, wMsF_eq, lngAF_eq, st1AF_eq, st2AF_eq, wrFF_eq, rfLF_eq, rfLsF_eq, rfFsF_eq, inIF_eq, inLF_eq]
  rfl
def rItF (lo hi : Int) (t : Option (Nat × Int)) : aV := (zI (inIF lo hi) (1, [], lo, hi, (0, 0, 0), t) aIt)
theorem rItF_eq : @rItF = @rIt := by
  delta rItF
  simp only [zA_eq, zO_eq, zN_eq, zI_eq, ileF_eq, imaxF_eq, iminF_eq, lkAF_eq, fctF_eq, gsegF_eq, gjoF_eq, gckF_eq, rd1F_eq, rdAF_eq, qflF_eq, qanF_eq, qalF_eq, qfdF_eq, sdjF_eq, kilJF_eq, sdmF_eq, kilMF_eq, filMF_eq, wMsF_eq, lngAF_eq, st1AF_eq, st2AF_eq, wrFF_eq, rfLF_eq, rfLsF_eq, rfFsF_eq, inIF_eq, inLF_eq, cst1F_eq]
  rfl
def rIF (lo hi : Int) : aV := (zI (inIF lo hi) (aI lo hi) aIt)
theorem rIF_eq : @rIF = @rI := by
  delta rIF
  simp only [zA_eq, zO_eq, zN_eq, zI_eq, ileF_eq, imaxF_eq, iminF_eq, lkAF_eq, fctF_eq, gsegF_eq, gjoF_eq, gckF_eq, rd1F_eq, rdAF_eq, qflF_eq, qanF_eq, qalF_eq, qfdF_eq, sdjF_eq, kilJF_eq, sdmF_eq, kilMF_eq, filMF_eq, wMsF_eq, lngAF_eq, st1AF_eq, st2AF_eq, wrFF_eq, rfLF_eq, rfLsF_eq, rfFsF_eq, inIF_eq, inLF_eq, cst1F_eq, rItF_eq]
  rfl
def rLF (lo hi : Int) : aV := (zI (inLF lo hi) (aL lo hi) aLt)
theorem rLF_eq : @rLF = @rL := by
  delta rLF
  simp only [zA_eq, zO_eq, zN_eq, zI_eq, ileF_eq, imaxF_eq, iminF_eq, lkAF_eq, fctF_eq, gsegF_eq, gjoF_eq, gckF_eq, rd1F_eq, rdAF_eq, qflF_eq, qanF_eq, qalF_eq, qfdF_eq, sdjF_eq, kilJF_eq, sdmF_eq, kilMF_eq, filMF_eq, wMsF_eq, lngAF_eq, st1AF_eq, st2AF_eq, wrFF_eq, rfLF_eq, rfLsF_eq, rfFsF_eq, inIF_eq, inLF_eq, cst1F_eq, rItF_eq, rIF_eq]
  rfl
def br1F (tS : Nat → List (Nat × Int × Int)) (kA : Nat → aLs → List aV → aFs → Bool) (pc : Nat) (x : aV) (lo hi : Int) (L : aLs) (R : List aV) (F : aFs) : Bool := (zI (ileF (imaxF x.2.2.1 lo) (iminF x.2.2.2.1 hi)) (kA pc (rfLsF x.2.2.2.2.1 lo hi L) R (rfFsF tS x.2.2.2.2.1 lo hi F)) true)
theorem br1F_eq : @br1F = @br1 := by
  delta br1F
  simp only [zA_eq, zO_eq, zN_eq, zI_eq, ileF_eq, imaxF_eq, iminF_eq, lkAF_eq, fctF_eq, gsegF_eq, gjoF_eq, gckF_eq, rd1F_eq, rdAF_eq, qflF_eq, qanF_eq, qalF_eq, qfdF_eq, sdjF_eq, kilJF_eq, sdmF_eq, kilMF_eq, filMF_eq, wMsF_eq, lngAF_eq, st1AF_eq, st2AF_eq, wrFF_eq, rfLF_eq, rfLsF_eq, rfFsF_eq, inIF_eq, inLF_eq, cst1F_eq, rItF_eq, rIF_eq, rLF_eq]
  rfl
def br2F (tS : Nat → List (Nat × Int × Int)) (kA : Nat → aLs → List aV → aFs → Bool) (pc : Nat) (x y : aV) (lo hi lo' hi' : Int) (L : aLs) (R : List aV) (F : aFs) : Bool := (zI (zA (ileF (imaxF x.2.2.1 lo) (iminF x.2.2.2.1 hi)) (ileF (imaxF y.2.2.1 lo') (iminF y.2.2.2.1 hi'))) (kA pc (rfLsF y.2.2.2.2.1 lo' hi' (rfLsF x.2.2.2.2.1 lo hi L)) R (rfFsF tS y.2.2.2.2.1 lo' hi' (rfFsF tS x.2.2.2.2.1 lo hi F))) true)
theorem br2F_eq : @br2F = @br2 := by
  delta br2F
  simp only [zA_eq, zO_eq, zN_eq, zI_eq, ileF_eq, imaxF_eq, iminF_eq, lkAF_eq, fctF_eq, gsegF_eq, gjoF_eq, gckF_eq, rd1F_eq, rdAF_eq, qflF_eq, qanF_eq, qalF_eq, qfdF_eq, sdjF_eq, kilJF_eq, sdmF_eq, kilMF_eq, filMF_eq, wMsF_eq, lngAF_eq, st1AF_eq, st2AF_eq, wrFF_eq, rfLF_eq, rfLsF_eq, rfFsF_eq, inIF_eq, inLF_eq, cst1F_eq, rItF_eq, rIF_eq, rLF_eq, br1F_eq]
  rfl
def ixF (v : aV) (n : Nat) : Bool := (zA (ileF 0 v.2.2.1) (ileF v.2.2.2.1 (Int.ofNat n - 1)))
theorem ixF_eq : @ixF = @ix := by
  delta ixF
  simp only [zA_eq, zO_eq, zN_eq, zI_eq, ileF_eq, imaxF_eq, iminF_eq, lkAF_eq, fctF_eq, gsegF_eq, gjoF_eq, gckF_eq, rd1F_eq, rdAF_eq, qflF_eq, qanF_eq, qalF_eq, qfdF_eq, sdjF_eq, kilJF_eq, sdmF_eq, kilMF_eq, filMF_eq, wMsF_eq, lngAF_eq, st1AF_eq, st2AF_eq, wrFF_eq, rfLF_eq, rfLsF_eq, rfFsF_eq, inIF_eq, inLF_eq, cst1F_eq, rItF_eq, rIF_eq, rLF_eq, br1F_eq, br2F_eq]
  rfl
def addAF (x y : aV) : aV := rItF (x.2.2.1 + y.2.2.1) (x.2.2.2.1 + y.2.2.2.1) (match cst1F y with | some d => tgA d x.2.2.2.2.2 | none => (match cst1F x with | some d => tgA d y.2.2.2.2.2 | none => none))
theorem addAF_eq : @addAF = @addA := by
  delta addAF
  simp only [zA_eq, zO_eq, zN_eq, zI_eq, ileF_eq, imaxF_eq, iminF_eq, lkAF_eq, fctF_eq, gsegF_eq, gjoF_eq, gckF_eq, rd1F_eq, rdAF_eq, qflF_eq, qanF_eq, qalF_eq, qfdF_eq, sdjF_eq, kilJF_eq, sdmF_eq, kilMF_eq, filMF_eq, wMsF_eq, lngAF_eq, st1AF_eq, st2AF_eq, wrFF_eq, rfLF_eq, rfLsF_eq, rfFsF_eq, inIF_eq, inLF_eq, cst1F_eq, rItF_eq, rIF_eq, rLF_eq, br1F_eq, br2F_eq, ixF_eq]
  rfl
def subAF (x y : aV) : aV := rItF (x.2.2.1 - y.2.2.2.1) (x.2.2.2.1 - y.2.2.1) (match cst1F y with | some d => tgA (-d) x.2.2.2.2.2 | none => none)
theorem subAF_eq : @subAF = @subA := by
  delta subAF
  simp only [zA_eq, zO_eq, zN_eq, zI_eq, ileF_eq, imaxF_eq, iminF_eq, lkAF_eq, fctF_eq, gsegF_eq, gjoF_eq, gckF_eq, rd1F_eq, rdAF_eq, qflF_eq, qanF_eq, qalF_eq, qfdF_eq, sdjF_eq, kilJF_eq, sdmF_eq, kilMF_eq, filMF_eq, wMsF_eq, lngAF_eq, st1AF_eq, st2AF_eq, wrFF_eq, rfLF_eq, rfLsF_eq, rfFsF_eq, inIF_eq, inLF_eq, cst1F_eq, rItF_eq, rIF_eq, rLF_eq, br1F_eq, br2F_eq, ixF_eq, addAF_eq]
  rfl
def mulBF (a b c d : Int) : Int × Int := (iminF (iminF (a * c) (a * d)) (iminF (b * c) (b * d)), imaxF (imaxF (a * c) (a * d)) (imaxF (b * c) (b * d)))
theorem mulBF_eq : @mulBF = @mulB := by
  delta mulBF
  simp only [zA_eq, zO_eq, zN_eq, zI_eq, ileF_eq, imaxF_eq, iminF_eq, lkAF_eq, fctF_eq, gsegF_eq, gjoF_eq, gckF_eq, rd1F_eq, rdAF_eq, qflF_eq, qanF_eq, qalF_eq, qfdF_eq, sdjF_eq, kilJF_eq, sdmF_eq, kilMF_eq, filMF_eq, wMsF_eq, lngAF_eq, st1AF_eq, st2AF_eq, wrFF_eq, rfLF_eq, rfLsF_eq, rfFsF_eq, inIF_eq, inLF_eq, cst1F_eq, rItF_eq, rIF_eq, rLF_eq, br1F_eq, br2F_eq, ixF_eq, addAF_eq, subAF_eq]
  rfl
def mulAF (x y : aV) : aV := rIF (mulBF x.2.2.1 x.2.2.2.1 y.2.2.1 y.2.2.2.1).1 (mulBF x.2.2.1 x.2.2.2.1 y.2.2.1 y.2.2.2.1).2
theorem mulAF_eq : @mulAF = @mulA := by
  delta mulAF
  simp only [zA_eq, zO_eq, zN_eq, zI_eq, ileF_eq, imaxF_eq, iminF_eq, lkAF_eq, fctF_eq, gsegF_eq, gjoF_eq, gckF_eq, rd1F_eq, rdAF_eq, qflF_eq, qanF_eq, qalF_eq, qfdF_eq, sdjF_eq, kilJF_eq, sdmF_eq, kilMF_eq, filMF_eq, wMsF_eq, lngAF_eq, st1AF_eq, st2AF_eq, wrFF_eq, rfLF_eq, rfLsF_eq, rfFsF_eq, inIF_eq, inLF_eq, cst1F_eq, rItF_eq, rIF_eq, rLF_eq, br1F_eq, br2F_eq, ixF_eq, addAF_eq, subAF_eq, mulBF_eq]
  rfl
def ex2F (f : Int32 → Int32 → Int32) (x y w : aV) : aV := match cst1F x, cst1F y with | some a, some b => aI (f (Int32.ofInt a) (Int32.ofInt b)).toInt (f (Int32.ofInt a) (Int32.ofInt b)).toInt | _, _ => w
theorem ex2F_eq : @ex2F = @ex2 := by
  delta ex2F
  simp only [zA_eq, zO_eq, zN_eq, zI_eq, ileF_eq, imaxF_eq, iminF_eq, lkAF_eq, fctF_eq, gsegF_eq, gjoF_eq, gckF_eq, rd1F_eq, rdAF_eq, qflF_eq, qanF_eq, qalF_eq, qfdF_eq, sdjF_eq, kilJF_eq, sdmF_eq, kilMF_eq, filMF_eq, wMsF_eq, lngAF_eq, st1AF_eq, st2AF_eq, wrFF_eq, rfLF_eq, rfLsF_eq, rfFsF_eq, inIF_eq, inLF_eq, cst1F_eq, rItF_eq, rIF_eq, rLF_eq, br1F_eq, br2F_eq, ixF_eq, addAF_eq, subAF_eq, mulBF_eq, mulAF_eq]
  rfl
def andAF (x y : aV) : aV := (zI (ileF 0 y.2.2.1) (aI 0 ((zI (ileF 0 x.2.2.1) (iminF x.2.2.2.1 y.2.2.2.1) y.2.2.2.1))) (zI (ileF 0 x.2.2.1) (aI 0 x.2.2.2.1) aIt))
theorem andAF_eq : @andAF = @andA := by
  delta andAF
  simp only [zA_eq, zO_eq, zN_eq, zI_eq, ileF_eq, imaxF_eq, iminF_eq, lkAF_eq, fctF_eq, gsegF_eq, gjoF_eq, gckF_eq, rd1F_eq, rdAF_eq, qflF_eq, qanF_eq, qalF_eq, qfdF_eq, sdjF_eq, kilJF_eq, sdmF_eq, kilMF_eq, filMF_eq, wMsF_eq, lngAF_eq, st1AF_eq, st2AF_eq, wrFF_eq, rfLF_eq, rfLsF_eq, rfFsF_eq, inIF_eq, inLF_eq, cst1F_eq, rItF_eq, rIF_eq, rLF_eq, br1F_eq, br2F_eq, ixF_eq, addAF_eq, subAF_eq, mulBF_eq, mulAF_eq, ex2F_eq]
  rfl
def orAF (x y : aV) : aV := (zI (zA (ileF 0 x.2.2.1) (ileF 0 y.2.2.1)) (aI 0 (pw2 31 (imaxF x.2.2.2.1 y.2.2.2.1))) aIt)
theorem orAF_eq : @orAF = @orA := by
  delta orAF
  simp only [zA_eq, zO_eq, zN_eq, zI_eq, ileF_eq, imaxF_eq, iminF_eq, lkAF_eq, fctF_eq, gsegF_eq, gjoF_eq, gckF_eq, rd1F_eq, rdAF_eq, qflF_eq, qanF_eq, qalF_eq, qfdF_eq, sdjF_eq, kilJF_eq, sdmF_eq, kilMF_eq, filMF_eq, wMsF_eq, lngAF_eq, st1AF_eq, st2AF_eq, wrFF_eq, rfLF_eq, rfLsF_eq, rfFsF_eq, inIF_eq, inLF_eq, cst1F_eq, rItF_eq, rIF_eq, rLF_eq, br1F_eq, br2F_eq, ixF_eq, addAF_eq, subAF_eq, mulBF_eq, mulAF_eq, ex2F_eq, andAF_eq]
  rfl
def orBF (x y : aV) : aV := (zI (zA (ileF 0 x.2.2.1) (ileF 0 y.2.2.1)) (aI (imaxF x.2.2.1 y.2.2.1) (pw2 31 (imaxF x.2.2.2.1 y.2.2.2.1))) aIt)
theorem orBF_eq : @orBF = @orB := by
  delta orBF
  simp only [zA_eq, zO_eq, zN_eq, zI_eq, ileF_eq, imaxF_eq, iminF_eq, lkAF_eq, fctF_eq, gsegF_eq, gjoF_eq, gckF_eq, rd1F_eq, rdAF_eq, qflF_eq, qanF_eq, qalF_eq, qfdF_eq, sdjF_eq, kilJF_eq, sdmF_eq, kilMF_eq, filMF_eq, wMsF_eq, lngAF_eq, st1AF_eq, st2AF_eq, wrFF_eq, rfLF_eq, rfLsF_eq, rfFsF_eq, inIF_eq, inLF_eq, cst1F_eq, rItF_eq, rIF_eq, rLF_eq, br1F_eq, br2F_eq, ixF_eq, addAF_eq, subAF_eq, mulBF_eq, mulAF_eq, ex2F_eq, andAF_eq, orAF_eq]
  rfl
def shlAF (x y : aV) : aV := (zI (zA (ileF 0 x.2.2.1) ((zA (ileF 0 y.2.2.1) ((zA (ileF y.2.2.2.1 30) (ileF (x.2.2.2.1 * (2 ^ y.2.2.2.1.toNat : Nat)) iHi)))))) (aI (x.2.2.1 * (2 ^ y.2.2.1.toNat : Nat)) (x.2.2.2.1 * (2 ^ y.2.2.2.1.toNat : Nat))) aIt)
theorem shlAF_eq : @shlAF = @shlA := by
  delta shlAF
  simp only [zA_eq, zO_eq, zN_eq, zI_eq, ileF_eq, imaxF_eq, iminF_eq, lkAF_eq, fctF_eq, gsegF_eq, gjoF_eq, gckF_eq, rd1F_eq, rdAF_eq, qflF_eq, qanF_eq, qalF_eq, qfdF_eq, sdjF_eq, kilJF_eq, sdmF_eq, kilMF_eq, filMF_eq, wMsF_eq, lngAF_eq, st1AF_eq, st2AF_eq, wrFF_eq, rfLF_eq, rfLsF_eq, rfFsF_eq, inIF_eq, inLF_eq, cst1F_eq, rItF_eq, rIF_eq, rLF_eq, br1F_eq, br2F_eq, ixF_eq, addAF_eq, subAF_eq, mulBF_eq, mulAF_eq, ex2F_eq, andAF_eq, orAF_eq, orBF_eq]
  rfl
def shrAF (x _ : aV) : aV := (zI (ileF 0 x.2.2.1) (aI 0 x.2.2.2.1) aIt)
theorem shrAF_eq : @shrAF = @shrA := by
  delta shrAF
  simp only [zA_eq, zO_eq, zN_eq, zI_eq, ileF_eq, imaxF_eq, iminF_eq, lkAF_eq, fctF_eq, gsegF_eq, gjoF_eq, gckF_eq, rd1F_eq, rdAF_eq, qflF_eq, qanF_eq, qalF_eq, qfdF_eq, sdjF_eq, kilJF_eq, sdmF_eq, kilMF_eq, filMF_eq, wMsF_eq, lngAF_eq, st1AF_eq, st2AF_eq, wrFF_eq, rfLF_eq, rfLsF_eq, rfFsF_eq, inIF_eq, inLF_eq, cst1F_eq, rItF_eq, rIF_eq, rLF_eq, br1F_eq, br2F_eq, ixF_eq, addAF_eq, subAF_eq, mulBF_eq, mulAF_eq, ex2F_eq, andAF_eq, orAF_eq, orBF_eq, shlAF_eq]
  rfl
def divAF (x y : aV) : aV := (zI (zA (ileF 0 x.2.2.1) (ileF 1 y.2.2.1)) (aI 0 x.2.2.2.1) aIt)
theorem divAF_eq : @divAF = @divA := by
  delta divAF
  simp only [zA_eq, zO_eq, zN_eq, zI_eq, ileF_eq, imaxF_eq, iminF_eq, lkAF_eq, fctF_eq, gsegF_eq, gjoF_eq, gckF_eq, rd1F_eq, rdAF_eq, qflF_eq, qanF_eq, qalF_eq, qfdF_eq, sdjF_eq, kilJF_eq, sdmF_eq, kilMF_eq, filMF_eq, wMsF_eq, lngAF_eq, st1AF_eq, st2AF_eq, wrFF_eq, rfLF_eq, rfLsF_eq, rfFsF_eq, inIF_eq, inLF_eq, cst1F_eq, rItF_eq, rIF_eq, rLF_eq, br1F_eq, br2F_eq, ixF_eq, addAF_eq, subAF_eq, mulBF_eq, mulAF_eq, ex2F_eq, andAF_eq, orAF_eq, orBF_eq, shlAF_eq, shrAF_eq]
  rfl
def aLeF (v w : aV) : Bool := (zA w.2.2.2.2.2.isNone ((zI (Nat.beq w.1 0) (zA (Nat.beq v.1 0) (v.2.1.all (fun c => w.2.1.any (fun d => Nat.beq d c)))) (zI (Nat.beq w.1 1) (zA (Nat.beq v.1 1) ((zA (ileF w.2.2.1 v.2.2.1) (ileF v.2.2.2.1 w.2.2.2.1)))) (zI (Nat.beq w.1 2) (zA ((zO (Nat.beq v.1 2) (Nat.beq v.1 3))) ((zA (ileF w.2.2.1 v.2.2.1) (ileF v.2.2.2.1 w.2.2.2.1)))) (zA (Nat.beq w.1 3) ((zA (Nat.beq v.1 3) ((zA (ileF w.2.2.1 v.2.2.1) (ileF v.2.2.2.1 w.2.2.2.1)))))))))))
theorem aLeF_eq : @aLeF = @aLe := by
  delta aLeF
  simp only [zA_eq, zO_eq, zN_eq, zI_eq, ileF_eq, imaxF_eq, iminF_eq, lkAF_eq, fctF_eq, gsegF_eq, gjoF_eq, gckF_eq, rd1F_eq, rdAF_eq, qflF_eq, qanF_eq, qalF_eq, qfdF_eq, sdjF_eq, kilJF_eq, sdmF_eq, kilMF_eq, filMF_eq, wMsF_eq, lngAF_eq, st1AF_eq, st2AF_eq, wrFF_eq, rfLF_eq, rfLsF_eq, rfFsF_eq, inIF_eq, inLF_eq, cst1F_eq, rItF_eq, rIF_eq, rLF_eq, br1F_eq, br2F_eq, ixF_eq, addAF_eq, subAF_eq, mulBF_eq, mulAF_eq, ex2F_eq, andAF_eq, orAF_eq, orBF_eq, shlAF_eq, shrAF_eq, divAF_eq]
  rfl
def fLeF (tS : Nat → List (Nat × Int × Int)) (F : aFs) (l : aFs) : Bool := List.rec (motive := fun _ => Bool) true (fun q _ ih => (zA ((zA (ileF q.2.2.1 (rd1F tS F q.1 q.2.1).1) (ileF (rd1F tS F q.1 q.2.1).2 q.2.2.2))) ih)) l
theorem fLeF_eq : @fLeF = @fLe := by
  delta fLeF
  simp only [zA_eq, zO_eq, zN_eq, zI_eq, ileF_eq, imaxF_eq, iminF_eq, lkAF_eq, fctF_eq, gsegF_eq, gjoF_eq, gckF_eq, rd1F_eq, rdAF_eq, qflF_eq, qanF_eq, qalF_eq, qfdF_eq, sdjF_eq, kilJF_eq, sdmF_eq, kilMF_eq, filMF_eq, wMsF_eq, lngAF_eq, st1AF_eq, st2AF_eq, wrFF_eq, rfLF_eq, rfLsF_eq, rfFsF_eq, inIF_eq, inLF_eq, cst1F_eq, rItF_eq, rIF_eq, rLF_eq, br1F_eq, br2F_eq, ixF_eq, addAF_eq, subAF_eq, mulBF_eq, mulAF_eq, ex2F_eq, andAF_eq, orAF_eq, orBF_eq, shlAF_eq, shrAF_eq, divAF_eq, aLeF_eq]
  rfl
def lLeF (L : aLs) (l : aLs) : Bool := List.rec (motive := fun _ => Bool) true (fun q _ ih => (zA (match lkAF q.1 L with | some v => aLeF v q.2 | none => false) ih)) l
theorem lLeF_eq : @lLeF = @lLe := by
  delta lLeF
  simp only [zA_eq, zO_eq, zN_eq, zI_eq, ileF_eq, imaxF_eq, iminF_eq, lkAF_eq, fctF_eq, gsegF_eq, gjoF_eq, gckF_eq, rd1F_eq, rdAF_eq, qflF_eq, qanF_eq, qalF_eq, qfdF_eq, sdjF_eq, kilJF_eq, sdmF_eq, kilMF_eq, filMF_eq, wMsF_eq, lngAF_eq, st1AF_eq, st2AF_eq, wrFF_eq, rfLF_eq, rfLsF_eq, rfFsF_eq, inIF_eq, inLF_eq, cst1F_eq, rItF_eq, rIF_eq, rLF_eq, br1F_eq, br2F_eq, ixF_eq, addAF_eq, subAF_eq, mulBF_eq, mulAF_eq, ex2F_eq, andAF_eq, orAF_eq, orBF_eq, shlAF_eq, shrAF_eq, divAF_eq, aLeF_eq, fLeF_eq]
  rfl
def lkcF (pc : Nat) (l : List (Nat × Instr)) : Option Instr := List.rec (motive := fun _ => Option Instr) none (fun q _ ih => zI (Nat.beq q.1 pc) (some q.2) ih) l
theorem lkcF_eq : @lkcF = @lkc := by
  unfold lkcF
  simp only [zI_eq]
  rfl
def aiPF (i : Instr) : Unit × ((Nat → List (Nat × Int × Int)) → (Nat → Nat → Option Nat) → List (Nat × Nat × Nat) → Nat → (Nat → List aV → (Option aV → (aLs → aLs) → (List aV → List aV) → (aFs → aFs) → Bool) → aFs → Bool) → (Nat → aLs → List aV → aFs → Bool) → (Option aV → aLs → aFs → Bool) → Nat → aLs → List aV → aFs → Bool) :=
  match i with
  | .iconst n => ((), fun tS tR M k cA kA rA pc L S F => kA (pc + 1) L (aI (Int32.ofInt n).toInt (Int32.ofInt n).toInt :: S) F)
  | .bipush n => ((), fun tS tR M k cA kA rA pc L S F => kA (pc + 2) L (aI (Int8.ofInt n).toInt32.toInt (Int8.ofInt n).toInt32.toInt :: S) F)
  | .sipush n => ((), fun tS tR M k cA kA rA pc L S F => kA (pc + 3) L (aI (Int16.ofInt n).toInt32.toInt (Int16.ofInt n).toInt32.toInt :: S) F)
  | .lconst n => ((), fun tS tR M k cA kA rA pc L S F => kA (pc + 1) L (aL (Int64.ofNat (n : Nat)).toInt (Int64.ofNat (n : Nat)).toInt :: S) F)
  | .iload_n n => ((), fun tS tR M k cA kA rA pc L S F => match lkAF (n : Nat) L with | some v => (zA (Nat.beq v.1 1) (kA (pc + 1) L ((1, [], v.2.2.1, v.2.2.2.1, (1, (n : Nat), 0), v.2.2.2.2.2) :: S) F)) | none => false)
  | .iload n => ((), fun tS tR M k cA kA rA pc L S F => match lkAF n L with | some v => (zA (Nat.beq v.1 1) (kA (pc + 2) L ((1, [], v.2.2.1, v.2.2.2.1, (1, n, 0), v.2.2.2.2.2) :: S) F)) | none => false)
  | .lload_n n => ((), fun tS tR M k cA kA rA pc L S F => match lkAF (n : Nat) L with | some v => (zA (Nat.ble 2 v.1) (kA (pc + 1) L ((v.1, [], v.2.2.1, v.2.2.2.1, (2, (n : Nat), 0), none) :: S) F)) | none => false)
  | .lload n => ((), fun tS tR M k cA kA rA pc L S F => match lkAF n L with | some v => (zA (Nat.ble 2 v.1) (kA (pc + 2) L ((v.1, [], v.2.2.1, v.2.2.2.1, (2, n, 0), none) :: S) F)) | none => false)
  | .aload_n n => ((), fun tS tR M k cA kA rA pc L S F => match lkAF (n : Nat) L with | some v => (zA (Nat.beq v.1 0) (kA (pc + 1) L (aR v.2.1 :: S) F)) | none => false)
  | .aload n => ((), fun tS tR M k cA kA rA pc L S F => match lkAF n L with | some v => (zA (Nat.beq v.1 0) (kA (pc + 2) L (aR v.2.1 :: S) F)) | none => false)
  | .istore_n n => ((), fun tS tR M k cA kA rA pc L S F => match S with | v :: R => (zA (Nat.beq v.1 1) ((zA (Nat.blt (n : Nat) (knl k)) (kA (pc + 1) (st1AF (n : Nat) v L) (kilJF (n : Nat) R) F)))) | [] => false)
  | .istore n => ((), fun tS tR M k cA kA rA pc L S F => match S with | v :: R => (zA (Nat.beq v.1 1) ((zA (Nat.blt n (knl k)) (kA (pc + 2) (st1AF n v L) (kilJF n R) F)))) | [] => false)
  | .lstore_n n => ((), fun tS tR M k cA kA rA pc L S F => match S with | v :: R => (zA (Nat.ble 2 v.1) ((zA (Nat.blt ((n : Nat) + 1) (knl k)) (kA (pc + 1) (st2AF (n : Nat) v L) (kilJF (n : Nat) (kilJF ((n : Nat) + 1) R)) F)))) | [] => false)
  | .lstore n => ((), fun tS tR M k cA kA rA pc L S F => match S with | v :: R => (zA (Nat.ble 2 v.1) ((zA (Nat.blt (n + 1) (knl k)) (kA (pc + 2) (st2AF n v L) (kilJF n (kilJF (n + 1) R)) F)))) | [] => false)
  | .astore_n n => ((), fun tS tR M k cA kA rA pc L S F => match S with | v :: R => (zA (Nat.beq v.1 0) ((zA (Nat.blt (n : Nat) (knl k)) (kA (pc + 1) (st1AF (n : Nat) v L) (kilJF (n : Nat) R) F)))) | [] => false)
  | .astore n => ((), fun tS tR M k cA kA rA pc L S F => match S with | v :: R => (zA (Nat.beq v.1 0) ((zA (Nat.blt n (knl k)) (kA (pc + 2) (st1AF n v L) (kilJF n R) F)))) | [] => false)
  | .iinc n d => ((), fun tS tR M k cA kA rA pc L S F => match lkAF n L with | some v => (zA (Nat.beq v.1 1) ((zA (Nat.blt n (knl k)) (kA (pc + 3) (st1AF n (addAF v (aI (Int32.ofInt d).toInt (Int32.ofInt d).toInt)) L) (kilJF n S) F)))) | none => false)
  | .iadd => ((), fun tS tR M k cA kA rA pc L S F => match S with | y :: (x :: R) => (zA (Nat.beq y.1 1) ((zA (Nat.beq x.1 1) (kA (pc + 1) L (addAF x y :: R) F)))) | _ => false)
  | .isub => ((), fun tS tR M k cA kA rA pc L S F => match S with | y :: (x :: R) => (zA (Nat.beq y.1 1) ((zA (Nat.beq x.1 1) (kA (pc + 1) L (subAF x y :: R) F)))) | _ => false)
  | .imul => ((), fun tS tR M k cA kA rA pc L S F => match S with | y :: (x :: R) => (zA (Nat.beq y.1 1) ((zA (Nat.beq x.1 1) (kA (pc + 1) L (mulAF x y :: R) F)))) | _ => false)
  | .iand => ((), fun tS tR M k cA kA rA pc L S F => match S with | y :: (x :: R) => (zA (Nat.beq y.1 1) ((zA (Nat.beq x.1 1) (kA (pc + 1) L (ex2F (fun a b => a &&& b) x y (andAF x y) :: R) F)))) | _ => false)
  | .ior => ((), fun tS tR M k cA kA rA pc L S F => match S with | y :: (x :: R) => (zA (Nat.beq y.1 1) ((zA (Nat.beq x.1 1) (kA (pc + 1) L (ex2F (fun a b => a ||| b) x y (orBF x y) :: R) F)))) | _ => false)
  | .ixor => ((), fun tS tR M k cA kA rA pc L S F => match S with | y :: (x :: R) => (zA (Nat.beq y.1 1) ((zA (Nat.beq x.1 1) (kA (pc + 1) L (ex2F (fun a b => a ^^^ b) x y (orAF x y) :: R) F)))) | _ => false)
  | .idiv => ((), fun tS tR M k cA kA rA pc L S F => match S with | y :: (x :: R) => (zA (Nat.beq y.1 1) ((zA (Nat.beq x.1 1) ((zA ((zO (ileF 1 y.2.2.1) (ileF y.2.2.2.1 (-1)))) (kA (pc + 1) L (divAF x y :: R) F)))))) | _ => false)
  | .ishl => ((), fun tS tR M k cA kA rA pc L S F => match S with | y :: (x :: R) => (zA (Nat.beq y.1 1) ((zA (Nat.beq x.1 1) (kA (pc + 1) L (shlAF x y :: R) F)))) | _ => false)
  | .ishr => ((), fun tS tR M k cA kA rA pc L S F => match S with | y :: (x :: R) => (zA (Nat.beq y.1 1) ((zA (Nat.beq x.1 1) (kA (pc + 1) L (ex2F (fun a b => a >>> (b &&& 31)) x y (shrAF x y) :: R) F)))) | _ => false)
  | .iushr => ((), fun tS tR M k cA kA rA pc L S F => match S with | y :: (x :: R) => (zA (Nat.beq y.1 1) ((zA (Nat.beq x.1 1) (kA (pc + 1) L (aIt :: R) F)))) | _ => false)
  | .ineg => ((), fun tS tR M k cA kA rA pc L S F => match S with | x :: R => (zA (Nat.beq x.1 1) (kA (pc + 1) L (rIF (-x.2.2.2.1) (-x.2.2.1) :: R) F)) | _ => false)
  | .i2l => ((), fun tS tR M k cA kA rA pc L S F => match S with | x :: R => (zA (Nat.beq x.1 1) (kA (pc + 1) L ((2, [], x.2.2.1, x.2.2.2.1, ((zI (Nat.beq x.2.2.2.2.1.1 1) (1, x.2.2.2.2.1.2.1, 0) (0, 0, 0))), none) :: R) F)) | _ => false)
  | .i2b => ((), fun tS tR M k cA kA rA pc L S F => match S with | x :: R => (zA (Nat.beq x.1 1) (kA (pc + 1) L (aI (-128) 127 :: R) F)) | _ => false)
  | .l2i => ((), fun tS tR M k cA kA rA pc L S F => match S with | x :: R => (zA (Nat.ble 2 x.1) (kA (pc + 1) L (((zI (inIF x.2.2.1 x.2.2.2.1) (aI x.2.2.1 x.2.2.2.1) aIt)) :: R) F)) | _ => false)
  | .ladd => ((), fun tS tR M k cA kA rA pc L S F => match S with | y :: (x :: R) => (zA (Nat.ble 2 y.1) ((zA (Nat.ble 2 x.1) (kA (pc + 1) L (rLF (x.2.2.1 + y.2.2.1) (x.2.2.2.1 + y.2.2.2.1) :: R) F)))) | _ => false)
  | .lsub => ((), fun tS tR M k cA kA rA pc L S F => match S with | y :: (x :: R) => (zA (Nat.ble 2 y.1) ((zA (Nat.ble 2 x.1) (kA (pc + 1) L (rLF (x.2.2.1 - y.2.2.2.1) (x.2.2.2.1 - y.2.2.1) :: R) F)))) | _ => false)
  | .lmul => ((), fun tS tR M k cA kA rA pc L S F => match S with | y :: (x :: R) => (zA (Nat.ble 2 y.1) ((zA (Nat.ble 2 x.1) (kA (pc + 1) L (rLF (mulBF x.2.2.1 x.2.2.2.1 y.2.2.1 y.2.2.2.1).1 (mulBF x.2.2.1 x.2.2.2.1 y.2.2.1 y.2.2.2.1).2 :: R) F)))) | _ => false)
  | .ldiv => ((), fun tS tR M k cA kA rA pc L S F => match S with | y :: (x :: R) => (zA (Nat.ble 2 y.1) ((zA (Nat.ble 2 x.1) ((zA ((zO (Nat.beq y.1 3) ((zO (ileF 1 y.2.2.1) (ileF y.2.2.2.1 (-1)))))) (kA (pc + 1) L (((zI (zA (ileF 0 x.2.2.1) (ileF 1 y.2.2.1)) (aL 0 x.2.2.2.1) aLt)) :: R) F)))))) | _ => false)
  | .lrem => ((), fun tS tR M k cA kA rA pc L S F => match S with | y :: (x :: R) => (zA (Nat.ble 2 y.1) ((zA (Nat.ble 2 x.1) ((zA (ileF 1 y.2.2.1) (kA (pc + 1) L (((zI (ileF 0 x.2.2.1) (aL 0 (y.2.2.2.1 - 1)) aLt)) :: R) F)))))) | _ => false)
  | .lushr => ((), fun tS tR M k cA kA rA pc L S F => match S with | y :: (x :: R) => (zA (Nat.beq y.1 1) ((zA (Nat.ble 2 x.1) (kA (pc + 1) L (((zI (zA (ileF 33 y.2.2.1) (ileF y.2.2.2.1 33)) (aL 0 iHi) aLt)) :: R) F)))) | _ => false)
  | .lcmp => ((), fun tS tR M k cA kA rA pc L S F => match S with | y :: (x :: R) => (zA (Nat.ble 2 y.1) ((zA (Nat.ble 2 x.1) (kA (pc + 1) L (aIs (-1) 1 ((zI (zA (Nat.beq x.2.2.2.2.1.1 2) ((zA (ileF 0 y.2.2.1) (ileF y.2.2.2.1 0)))) (3, x.2.2.2.2.1.2.1, 0) (0, 0, 0))) :: R) F)))) | _ => false)
  | .dup => ((), fun tS tR M k cA kA rA pc L S F => match S with | v :: R => (zA (Nat.ble v.1 1) (kA (pc + 1) L (v :: (v :: R)) F)) | _ => false)
  | .pop => ((), fun tS tR M k cA kA rA pc L S F => match S with | v :: R => (zA (Nat.ble v.1 1) (kA (pc + 1) L R F)) | _ => false)
  | .dup2 => ((), fun tS tR M k cA kA rA pc L S F => match S with | v :: (w :: R) => (zA (Nat.ble v.1 1) ((zA (Nat.ble w.1 1) (kA (pc + 1) L (v :: (w :: (v :: (w :: R)))) F)))) | _ => false)
  | .goto o => ((), fun tS tR M k cA kA rA pc L S F => kA (tgt pc o) L S F)
  | .ifCond cc o => ((), fun tS tR M k cA kA rA pc L S F => match S with | x :: R => (zA (Nat.beq x.1 1) (match cc with | .eq => (zA (br1F tS kA (tgt pc o) x 0 0 L R F) ((zA (br1F tS kA (pc + 3) x 1 iHi (nzS x.2.2.2.2.1 L) R F) (br1F tS kA (pc + 3) x iLo (-1) (nzS x.2.2.2.2.1 L) R F)))) | .ne => (zA (br1F tS kA (pc + 3) x 0 0 L R F) ((zA (br1F tS kA (tgt pc o) x 1 iHi (nzS x.2.2.2.2.1 L) R F) (br1F tS kA (tgt pc o) x iLo (-1) (nzS x.2.2.2.2.1 L) R F)))) | .lt => (zA (br1F tS kA (tgt pc o) x iLo (-1) L R F) (br1F tS kA (pc + 3) x 0 iHi L R F)) | .ge => (zA (br1F tS kA (tgt pc o) x 0 iHi L R F) (br1F tS kA (pc + 3) x iLo (-1) L R F)) | .gt => (zA (br1F tS kA (tgt pc o) x 1 iHi L R F) (br1F tS kA (pc + 3) x iLo 0 L R F)) | .le => (zA (br1F tS kA (tgt pc o) x iLo 0 L R F) (br1F tS kA (pc + 3) x 1 iHi L R F)))) | _ => false)
  | .if_icmp cc o => ((), fun tS tR M k cA kA rA pc L S F => match S with | y :: (x :: R) => (zA (Nat.beq y.1 1) ((zA (Nat.beq x.1 1) (match cc with | .eq => (zA (br2F tS kA (tgt pc o) x y y.2.2.1 y.2.2.2.1 x.2.2.1 x.2.2.2.1 L R F) ((zA (br2F tS kA (pc + 3) x y iLo (y.2.2.2.1 - 1) (x.2.2.1 + 1) iHi L R F) (br2F tS kA (pc + 3) x y (y.2.2.1 + 1) iHi iLo (x.2.2.2.1 - 1) L R F)))) | .ne => (zA (br2F tS kA (pc + 3) x y y.2.2.1 y.2.2.2.1 x.2.2.1 x.2.2.2.1 L R F) ((zA (br2F tS kA (tgt pc o) x y iLo (y.2.2.2.1 - 1) (x.2.2.1 + 1) iHi L R F) (br2F tS kA (tgt pc o) x y (y.2.2.1 + 1) iHi iLo (x.2.2.2.1 - 1) L R F)))) | .lt => (zA (br2F tS kA (tgt pc o) x y iLo (y.2.2.2.1 - 1) (x.2.2.1 + 1) iHi L R F) (br2F tS kA (pc + 3) x y y.2.2.1 iHi iLo x.2.2.2.1 L R F)) | .ge => (zA (br2F tS kA (pc + 3) x y iLo (y.2.2.2.1 - 1) (x.2.2.1 + 1) iHi L R F) (br2F tS kA (tgt pc o) x y y.2.2.1 iHi iLo x.2.2.2.1 L R F)) | .gt => (zA (br2F tS kA (tgt pc o) x y (y.2.2.1 + 1) iHi iLo (x.2.2.2.1 - 1) L R F) (br2F tS kA (pc + 3) x y iLo y.2.2.2.1 x.2.2.1 iHi L R F)) | .le => (zA (br2F tS kA (pc + 3) x y (y.2.2.1 + 1) iHi iLo (x.2.2.2.1 - 1) L R F) (br2F tS kA (tgt pc o) x y iLo y.2.2.2.1 x.2.2.1 iHi L R F)))))) | _ => false)
  | .ifnull _ => ((), fun tS tR M k cA kA rA pc L S F => match S with | x :: R => (zA (Nat.beq x.1 0) (kA (pc + 3) L R F)) | _ => false)
  | .ifnonnull o => ((), fun tS tR M k cA kA rA pc L S F => match S with | x :: R => (zA (Nat.beq x.1 0) (kA (tgt pc o) L R F)) | _ => false)
  | .tableswitch d lo hi os => ((), fun tS tR M k cA kA rA pc L S F => match S with | x :: R => (zA (Nat.beq x.1 1) ((zA (br1F tS kA (tgt pc d) x iLo (lo - 1) L R F) ((zA (br1F tS kA (tgt pc d) x (hi + 1) iHi L R F) ((zA (decide (os.toList.length = ((hi + 1) - lo).toNat)) (swA tS kA pc x L R F lo os.toList)))))))) | _ => false)
  | .lookupswitch d ps => ((), fun tS tR M k cA kA rA pc L S F => match S with | x :: R => (zA (Nat.beq x.1 1) ((zA (kA (tgt pc d) L R F) (lswA tS kA pc x L R F ps.toList)))) | _ => false)
  | .ldc i => ((), fun tS tR M k cA kA rA pc L S F => match kLd (kcl k) i with | some (.int v) => kA (pc + 2) L (aI v.toInt v.toInt :: S) F | some (.ref a) => kA (pc + 2) L (aR [a] :: S) F | _ => false)
  | .ldc_w i => ((), fun tS tR M k cA kA rA pc L S F => match kLd (kcl k) i with | some (.int v) => kA (pc + 3) L (aI v.toInt v.toInt :: S) F | _ => false)
  | .ldc2_w i => ((), fun tS tR M k cA kA rA pc L S F => match kLd (kcl k) i with | some (.long v) => kA (pc + 3) L (aL v.toInt v.toInt :: S) F | _ => false)
  | .getstatic i => ((), fun tS tR M k cA kA rA pc L S F => match kSt (kcl k) i with | some a => kA (pc + 3) L (aR [a] :: S) F | none => false)
  | .getfield i => ((), fun tS tR M k cA kA rA pc L S F => match S with | x :: R => (zA (Nat.beq x.1 0) (match kFd (kcl k) i with | some (ci, f) => (zA (x.2.1.all (fun a => decide (lay a = (3, ci, kNf ci)))) (match fk ci f with | 0 => kA (pc + 3) L (rdAF tS F x.2.1 f f :: R) F | 1 => kA (pc + 3) L (rdAF tS F x.2.1 f f :: R) F | 2 => kA (pc + 3) L (aLt :: R) F | 3 => (match rfC tR f 1 x.2.1 with | some cs => kA (pc + 3) L (aR cs :: R) F | none => false) | _ => false)) | none => false)) | _ => false)
  | .putfield i => ((), fun tS tR M k cA kA rA pc L S F => match kFd (kcl k) i with | some (ci, f) => (zA (zN (fn ci f)) (match S with | v :: (x :: R) => (zA (Nat.beq x.1 0) ((zA (x.2.1.all (fun a => decide (lay a = (3, ci, kNf ci)))) (match fk ci f with | 0 => (zA (Nat.beq v.1 1) ((zA (x.2.1.all (fun a => (zA (wMsF M a f f) (gckF f f v.2.2.1 v.2.2.2.1 (tS a))))) (kA (pc + 3) L (kilMF x.2.1 f f R) (wrFF F x.2.1 f f v.2.2.1 v.2.2.2.1))))) | 1 => (zA (Nat.beq v.1 1) ((zA ((zA (ileF 0 v.2.2.1) (ileF v.2.2.2.1 1))) ((zA (x.2.1.all (fun a => (zA (wMsF M a f f) (gckF f f v.2.2.1 v.2.2.2.1 (tS a))))) (kA (pc + 3) L (kilMF x.2.1 f f R) (wrFF F x.2.1 f f v.2.2.1 v.2.2.2.1))))))) | 2 => (zA (Nat.ble 2 v.1) (kA (pc + 3) L R F)) | _ => false)))) | _ => false)) | none => false)
  | .arraylength => ((), fun tS tR M k cA kA rA pc L S F => match S with | x :: R => (zA (Nat.beq x.1 0) (match x.2.1 with | a :: t => (zA ((a :: t).all (fun b => (zA ((zO (Nat.beq (lay b).1 0) (Nat.beq (lay b).1 4))) (Nat.beq (lay b).2.2 (lay a).2.2)))) ((zA (Nat.blt (lay a).2.2 100000) (kA (pc + 1) L (aI (Int.ofNat (lay a).2.2) (Int.ofNat (lay a).2.2) :: R) F)))) | [] => true)) | _ => false)
  | .iaload => ((), fun tS tR M k cA kA rA pc L S F => match S with | j :: (x :: R) => (zA (Nat.beq j.1 1) ((zA (Nat.beq x.1 0) (match x.2.1 with | [] => true | a :: t => (zI (Nat.beq (lay a).1 0) (zA ((a :: t).all (fun b => (zA (decide (((lay b).1 = 0) ∧ ((lay b).2.1 = 0))) (ixF j (lay b).2.2)))) (kA (pc + 1) L (rdAF tS F (a :: t) j.2.2.1.toNat j.2.2.2.1.toNat :: R) F)) (zA (Nat.beq t.length 0) ((zA (decide (((lay a).1 = 4) ∧ ((lay a).2.1 = 0))) ((zA (ixF j (lay a).2.2) (kA (pc + 1) L (aI (cmn a j.2.2.1.toNat ((j.2.2.2.1.toNat + 1) - j.2.2.1.toNat)).1 (cmn a j.2.2.1.toNat ((j.2.2.2.1.toNat + 1) - j.2.2.1.toNat)).2 :: R) F))))))))))) | _ => false)
  | .baload => ((), fun tS tR M k cA kA rA pc L S F => match S with | j :: (x :: R) => (zA (Nat.beq j.1 1) ((zA (Nat.beq x.1 0) ((zA (x.2.1.all (fun b => (zA (decide (((lay b).1 = 0) ∧ (((lay b).2.1 = 1) ∨ ((lay b).2.1 = 2)))) (ixF j (lay b).2.2)))) (kA (pc + 1) L (rdAF tS F x.2.1 j.2.2.1.toNat j.2.2.2.1.toNat :: R) F)))))) | _ => false)
  | .caload => ((), fun tS tR M k cA kA rA pc L S F => match S with | j :: (x :: R) => (zA (Nat.beq j.1 1) ((zA (Nat.beq x.1 0) (match x.2.1 with | [a] => (zA (decide (((lay a).1 = 4) ∧ ((lay a).2.1 = 3))) ((zA (ixF j (lay a).2.2) (kA (pc + 1) L (aI (cmn a j.2.2.1.toNat ((j.2.2.2.1.toNat + 1) - j.2.2.1.toNat)).1 (cmn a j.2.2.1.toNat ((j.2.2.2.1.toNat + 1) - j.2.2.1.toNat)).2 :: R) F)))) | _ => false)))) | _ => false)
  | .laload => ((), fun tS tR M k cA kA rA pc L S F => match S with | j :: (x :: R) => (zA (Nat.beq j.1 1) ((zA (Nat.beq x.1 0) ((zA (x.2.1.all (fun b => (zA (decide ((lay b).1 = 1)) (ixF j (lay b).2.2)))) (kA (pc + 1) L (aLt :: R) F)))))) | _ => false)
  | .aaload => ((), fun tS tR M k cA kA rA pc L S F => match S with | j :: (x :: R) => (zA (Nat.beq j.1 1) ((zA (Nat.beq x.1 0) ((zA (x.2.1.all (fun b => (zA (decide ((lay b).1 = 2)) (ixF j (lay b).2.2)))) (match rfC tR j.2.2.1.toNat ((j.2.2.2.1.toNat + 1) - j.2.2.1.toNat) x.2.1 with | some cs => kA (pc + 1) L (aR cs :: R) F | none => false)))))) | _ => false)
  | .iastore => ((), fun tS tR M k cA kA rA pc L S F => match S with | v :: (j :: (x :: R)) => (zA (Nat.beq v.1 1) ((zA (Nat.beq j.1 1) ((zA (Nat.beq x.1 0) ((zA (x.2.1.all (fun b => (zA (decide (((lay b).1 = 0) ∧ ((lay b).2.1 = 0))) ((zA (ixF j (lay b).2.2) ((zA (wMsF M b j.2.2.1.toNat j.2.2.2.1.toNat) (gckF j.2.2.1.toNat j.2.2.2.1.toNat v.2.2.1 v.2.2.2.1 (tS b))))))))) (kA (pc + 1) L (kilMF x.2.1 j.2.2.1.toNat j.2.2.2.1.toNat R) (wrFF F x.2.1 j.2.2.1.toNat j.2.2.2.1.toNat v.2.2.1 v.2.2.2.1))))))))) | _ => false)
  | .bastore => ((), fun tS tR M k cA kA rA pc L S F => match S with | v :: (j :: (x :: R)) => (zA (Nat.beq v.1 1) ((zA (Nat.beq j.1 1) ((zA (Nat.beq x.1 0) ((zA (x.2.1.all (fun b => (zA ((zO (zA (decide (((lay b).1 = 0) ∧ ((lay b).2.1 = 2))) ((zA (ileF 0 v.2.2.1) (ileF v.2.2.2.1 1)))) (zA (decide (((lay b).1 = 0) ∧ ((lay b).2.1 = 1))) ((zA (ileF (-128) v.2.2.1) (ileF v.2.2.2.1 127)))))) ((zA (ixF j (lay b).2.2) ((zA (wMsF M b j.2.2.1.toNat j.2.2.2.1.toNat) (gckF j.2.2.1.toNat j.2.2.2.1.toNat v.2.2.1 v.2.2.2.1 (tS b))))))))) (kA (pc + 1) L (kilMF x.2.1 j.2.2.1.toNat j.2.2.2.1.toNat R) (wrFF F x.2.1 j.2.2.1.toNat j.2.2.2.1.toNat v.2.2.1 v.2.2.2.1))))))))) | _ => false)
  | .lastore => ((), fun tS tR M k cA kA rA pc L S F => match S with | v :: (j :: (x :: R)) => (zA (Nat.ble 2 v.1) ((zA (Nat.beq j.1 1) ((zA (Nat.beq x.1 0) ((zA (x.2.1.all (fun b => (zA (decide ((lay b).1 = 1)) (ixF j (lay b).2.2)))) (kA (pc + 1) L R F)))))))) | _ => false)
  | .invokevirtual i => ((), fun tS tR M k cA kA rA pc L S F => match kCl (kcl k) i with | some (1, j) => (match popA (knp j) S with | some (as, x :: R) => (zA (Nat.beq x.1 0) ((zA (x.2.1.all (fun b => decide (lay b = (3, kcl j, kNf (kcl j))))) ((zA (Nat.ble (R.map aCat).sum 8) ((zA (Nat.beq (kmc j) 0) ((zA (Nat.beq (kms j) 0) (cA j (x :: as) (fun rv fL fS fF => kA (pc + 3) (fL L) (rv.toList ++ fS R) (fF F)) F)))))))))) | _ => false) | some (3, j) => (match popA (knp j) S with | some (as, x :: R) => (zA (Nat.beq x.1 0) ((zA (x.2.1.all (fun b => decide ((lay b).1 = 5))) ((zA (Nat.ble (R.map aCat).sum 8) (cA j (x :: as) (fun rv fL fS fF => kA (pc + 3) (fL L) (rv.toList ++ fS R) (fF F)) F)))))) | _ => false) | _ => false)
  | .invokestatic i => ((), fun tS tR M k cA kA rA pc L S F => match kCl (kcl k) i with | some (2, j) => (match popA (knp j) S with | some (as, R) => (zA (Nat.ble (R.map aCat).sum 8) ((zA (Nat.beq (kmc j) 0) ((zA (Nat.beq (kms j) 0) (cA j as (fun rv fL fS fF => kA (pc + 3) (fL L) (rv.toList ++ fS R) (fF F)) F)))))) | none => false) | some (5, _) => (match S with | n :: (dp :: (b :: (sp :: (a :: R)))) => (zA (Nat.beq n.1 1) ((zA (Nat.beq dp.1 1) ((zA (Nat.beq b.1 0) ((zA (Nat.beq sp.1 1) ((zA (Nat.beq a.1 0) ((zA (Nat.ble (R.map aCat).sum 8) (match cst1F dp, cst1F sp with | some d9, some s9 => (zA (ileF 0 d9) ((zA (ileF 0 s9) ((zA (ileF 0 n.2.2.1) ((zA (b.2.1.all (fun y => (zA (decide (((lay y).1 = 0) ∧ ((lay y).2.1 = 0))) ((zA (Nat.ble (d9.toNat + n.2.2.2.1.toNat) (lay y).2.2) ((zA (wMsF M y d9.toNat ((d9.toNat + n.2.2.2.1.toNat) - 1)) (a.2.1.all (fun z => (zA (decide ((lay z).2.1 = 0)) ((zA (Nat.ble (s9.toNat + n.2.2.2.1.toNat) (lay z).2.2) ((zI (Nat.beq (lay z).1 0) (cpC tS z y s9.toNat d9.toNat n.2.2.2.1.toNat) ((zA (Nat.beq (lay z).1 4) (cpK tS z y s9.toNat d9.toNat n.2.2.2.1.toNat))))))))))))))))) (kA (pc + 3) L (kilMF b.2.1 d9.toNat ((d9.toNat + n.2.2.2.1.toNat) - 1) R) (filMF b.2.1 d9.toNat ((d9.toNat + n.2.2.2.1.toNat) - 1) F))))))))) | _, _ => false)))))))))))) | _ => false) | _ => false)
  | .ireturn => ((), fun tS tR M k cA kA rA pc L S F => match S with | [v] => (zA (Nat.beq v.1 1) ((zA ((zO (Nat.beq (kr k) 1) ((zA (Nat.beq (kr k) 2) ((zA (ileF 0 v.2.2.1) (ileF v.2.2.2.1 1))))))) (rA (some v) L F)))) | _ => false)
  | .lreturn => ((), fun tS tR M k cA kA rA pc L S F => match S with | [v] => (zA (Nat.ble 2 v.1) ((zA (Nat.beq (kr k) 4) (rA (some v) L F)))) | _ => false)
  | .return_ => ((), fun tS tR M k cA kA rA pc L S F => match S with | [] => (zA (Nat.beq (kr k) 0) (rA none L F)) | _ => false)
  | _ => ((), fun tS tR M k cA kA rA pc L S F => false)
set_option maxRecDepth 100000 in
set_option maxHeartbeats 10000000 in
theorem aiPF_eq : aiPF = aiP := by
  delta aiPF
  simp only [zA_eq, zO_eq, zN_eq, zI_eq, ileF_eq, imaxF_eq, iminF_eq, lkAF_eq, fctF_eq, gsegF_eq, gjoF_eq, gckF_eq, rd1F_eq, rdAF_eq, qflF_eq, qanF_eq, qalF_eq, qfdF_eq, sdjF_eq, kilJF_eq, sdmF_eq, kilMF_eq, filMF_eq, wMsF_eq, lngAF_eq, st1AF_eq, st2AF_eq, wrFF_eq, rfLF_eq, rfLsF_eq, rfFsF_eq, inIF_eq, inLF_eq, cst1F_eq, rItF_eq, rIF_eq, rLF_eq, br1F_eq, br2F_eq, ixF_eq, addAF_eq, subAF_eq, mulBF_eq, mulAF_eq, ex2F_eq, andAF_eq, orAF_eq, orBF_eq, shlAF_eq, shrAF_eq, divAF_eq, aLeF_eq, fLeF_eq, lLeF_eq, lkcF_eq]
  rfl
def aiF (tS : Nat → List (Nat × Int × Int)) (tR : Nat → Nat → Option Nat) (M : List (Nat × Nat × Nat)) (k : Nat) (cA : Nat → List aV → (Option aV → (aLs → aLs) → (List aV → List aV) → (aFs → aFs) → Bool) → aFs → Bool) (kA : Nat → aLs → List aV → aFs → Bool) (rA : Option aV → aLs → aFs → Bool) (i : Instr) (pc : Nat) (L : aLs) (S : List aV) (F : aFs) : Bool := (aiPF i).2 tS tR M k cA kA rA pc L S F
theorem aiF_eq : @aiF = @ai := by
  unfold aiF ai
  rw [aiPF_eq]
def aLesF (S : List aV) : List aV → Bool := List.rec (motive := fun _ => List aV → Bool) (fun T => List.rec (motive := fun _ => Bool) true (fun _ _ _ => false) T) (fun v _ ih T => List.rec (motive := fun _ => Bool) false (fun w U _ => zA (aLeF v w) (ih U)) T) S
theorem aLesF_eq : aLesF = aLes := by
  funext S
  induction S with
  | nil => funext T; cases T <;> rfl
  | cons v S ih =>
    funext T
    cases T with
    | nil => rfl
    | cons w T =>
      show zA (aLeF v w) (aLesF S T) = (aLe v w && aLes S T)
      rw [ih, aLeF_eq, zA_eq]
def rArgsF (as : List aV) : List (Int × Int) → aLs → aLs := List.rec (motive := fun _ => List (Int × Int) → aLs → aLs) (fun _ L => L) (fun a _ ih rs L => List.rec (motive := fun _ => aLs) L (fun r rs _ => ih rs (zI (Nat.beq a.1 1) (rfLsF a.2.2.2.2.1 r.1 r.2 L) (zI (zA (Nat.ble 2 a.1) (Nat.beq a.2.2.2.2.1.1 1)) (rfLF a.2.2.2.2.1.2.1 r.1 r.2 L) L))) rs) as
theorem rArgsF_eq : rArgsF = rArgs := by
  funext S
  induction S with
  | nil => funext T L; cases T <;> rfl
  | cons v S ih =>
    funext T L
    cases T with
    | nil => rfl
    | cons w T =>
      show rArgsF S T (zI (Nat.beq v.1 1) (rfLsF v.2.2.2.2.1 w.1 w.2 L) (zI (zA (Nat.ble 2 v.1) (Nat.beq v.2.2.2.2.1.1 1)) (rfLF v.2.2.2.2.1.2.1 w.1 w.2 L) L)) = _
      rw [ih, rfLsF_eq, rfLF_eq]
      simp only [zI_eq, zA_eq]
      rfl
def kMsF (l : List (Nat × Nat × Nat)) (S : List aV) : List aV := List.rec (motive := fun _ => List aV) S (fun q _ ih => kilMF [q.1] q.2.1 (q.2.2 - 1) ih) l
theorem kMsF_eq : @kMsF = @kMs := by
  delta kMsF
  simp only [zA_eq, zO_eq, zN_eq, zI_eq, ileF_eq, imaxF_eq, iminF_eq, lkAF_eq, fctF_eq, gsegF_eq, gjoF_eq, gckF_eq, rd1F_eq, rdAF_eq, qflF_eq, qanF_eq, qalF_eq, qfdF_eq, sdjF_eq, kilJF_eq, sdmF_eq, kilMF_eq, filMF_eq, wMsF_eq, lngAF_eq, st1AF_eq, st2AF_eq, wrFF_eq, rfLF_eq, rfLsF_eq, rfFsF_eq, inIF_eq, inLF_eq, cst1F_eq, rItF_eq, rIF_eq, rLF_eq, br1F_eq, br2F_eq, ixF_eq, addAF_eq, subAF_eq, mulBF_eq, mulAF_eq, ex2F_eq, andAF_eq, orAF_eq, orBF_eq, shlAF_eq, shrAF_eq, divAF_eq, aLeF_eq, fLeF_eq, lLeF_eq, lkcF_eq, aLesF_eq, rArgsF_eq]
  rfl
def fMsF (l : List (Nat × Nat × Nat)) (F : aFs) : aFs := List.rec (motive := fun _ => aFs) F (fun q _ ih => filMF [q.1] q.2.1 (q.2.2 - 1) ih) l
theorem fMsF_eq : @fMsF = @fMs := by
  delta fMsF
  simp only [zA_eq, zO_eq, zN_eq, zI_eq, ileF_eq, imaxF_eq, iminF_eq, lkAF_eq, fctF_eq, gsegF_eq, gjoF_eq, gckF_eq, rd1F_eq, rdAF_eq, qflF_eq, qanF_eq, qalF_eq, qfdF_eq, sdjF_eq, kilJF_eq, sdmF_eq, kilMF_eq, filMF_eq, wMsF_eq, lngAF_eq, st1AF_eq, st2AF_eq, wrFF_eq, rfLF_eq, rfLsF_eq, rfFsF_eq, inIF_eq, inLF_eq, cst1F_eq, rItF_eq, rIF_eq, rLF_eq, br1F_eq, br2F_eq, ixF_eq, addAF_eq, subAF_eq, mulBF_eq, mulAF_eq, ex2F_eq, andAF_eq, orAF_eq, orBF_eq, shlAF_eq, shrAF_eq, divAF_eq, aLeF_eq, fLeF_eq, lLeF_eq, lkcF_eq, aLesF_eq, rArgsF_eq, kMsF_eq]
  rfl
def meFF (tS : Nat → List (Nat × Int × Int)) (F : aFs) (l : aFs) : aFs := List.rec (motive := fun _ => aFs) [] (fun q _ ih => (q.1, q.2.1, imaxF (rd1F tS F q.1 q.2.1).1 q.2.2.1, iminF (rd1F tS F q.1 q.2.1).2 q.2.2.2) :: ih) l
theorem meFF_eq : @meFF = @meF := by
  delta meFF
  simp only [zA_eq, zO_eq, zN_eq, zI_eq, ileF_eq, imaxF_eq, iminF_eq, lkAF_eq, fctF_eq, gsegF_eq, gjoF_eq, gckF_eq, rd1F_eq, rdAF_eq, qflF_eq, qanF_eq, qalF_eq, qfdF_eq, sdjF_eq, kilJF_eq, sdmF_eq, kilMF_eq, filMF_eq, wMsF_eq, lngAF_eq, st1AF_eq, st2AF_eq, wrFF_eq, rfLF_eq, rfLsF_eq, rfFsF_eq, inIF_eq, inLF_eq, cst1F_eq, rItF_eq, rIF_eq, rLF_eq, br1F_eq, br2F_eq, ixF_eq, addAF_eq, subAF_eq, mulBF_eq, mulAF_eq, ex2F_eq, andAF_eq, orAF_eq, orBF_eq, shlAF_eq, shrAF_eq, divAF_eq, aLeF_eq, fLeF_eq, lLeF_eq, lkcF_eq, aLesF_eq, rArgsF_eq, kMsF_eq, fMsF_eq]
  rfl
def callAF (tS : Nat → List (Nat × Int × Int)) (T : List aCt) (M : List (Nat × Nat × Nat)) (j : Nat) (as : List aV) (Ka : Option aV → (aLs → aLs) → (List aV → List aV) → (aFs → aFs) → Bool) (F : aFs) : Bool := match qfdF (fun c => (zA (Nat.beq c.1 j) ((zA (aLesF as c.2.1) (fLeF tS F c.2.2.1))))) T with | some c => (zA (qalF (fun q => qanF (fun r => (zA (Nat.beq r.1 q.1) ((zA (Nat.ble r.2.1 q.2.1) (Nat.ble q.2.2 r.2.2))))) M) c.2.2.2.2) (qalF (fun o => Ka (o.1.map aCl) (rArgsF as o.2.1) (kMsF c.2.2.2.2) (fun F => meFF tS (fMsF c.2.2.2.2 F) o.2.2 ++ fMsF c.2.2.2.2 F)) c.2.2.2.1)) | none => false
theorem callAF_eq : @callAF = @callA := by
  delta callAF
  simp only [zA_eq, zO_eq, zN_eq, zI_eq, ileF_eq, imaxF_eq, iminF_eq, lkAF_eq, fctF_eq, gsegF_eq, gjoF_eq, gckF_eq, rd1F_eq, rdAF_eq, qflF_eq, qanF_eq, qalF_eq, qfdF_eq, sdjF_eq, kilJF_eq, sdmF_eq, kilMF_eq, filMF_eq, wMsF_eq, lngAF_eq, st1AF_eq, st2AF_eq, wrFF_eq, rfLF_eq, rfLsF_eq, rfFsF_eq, inIF_eq, inLF_eq, cst1F_eq, rItF_eq, rIF_eq, rLF_eq, br1F_eq, br2F_eq, ixF_eq, addAF_eq, subAF_eq, mulBF_eq, mulAF_eq, ex2F_eq, andAF_eq, orAF_eq, orBF_eq, shlAF_eq, shrAF_eq, divAF_eq, aLeF_eq, fLeF_eq, lLeF_eq, lkcF_eq, aLesF_eq, rArgsF_eq, kMsF_eq, fMsF_eq, meFF_eq]
  rfl
def ndMF (cur : Option (Int × aRk)) (nd : aNd) (L : aLs) : Bool := match cur with | none => true | some (c, R) => (match rkD L R nd.2.2.2.2 with | some s => ileF ((nd.2.2.2.1 + s) + 1) c | none => false)
theorem ndMF_eq : @ndMF = @ndM := by
  delta ndMF
  simp only [zA_eq, zO_eq, zN_eq, zI_eq, ileF_eq, imaxF_eq, iminF_eq, lkAF_eq, fctF_eq, gsegF_eq, gjoF_eq, gckF_eq, rd1F_eq, rdAF_eq, qflF_eq, qanF_eq, qalF_eq, qfdF_eq, sdjF_eq, kilJF_eq, sdmF_eq, kilMF_eq, filMF_eq, wMsF_eq, lngAF_eq, st1AF_eq, st2AF_eq, wrFF_eq, rfLF_eq, rfLsF_eq, rfFsF_eq, inIF_eq, inLF_eq, cst1F_eq, rItF_eq, rIF_eq, rLF_eq, br1F_eq, br2F_eq, ixF_eq, addAF_eq, subAF_eq, mulBF_eq, mulAF_eq, ex2F_eq, andAF_eq, orAF_eq, orBF_eq, shlAF_eq, shrAF_eq, divAF_eq, aLeF_eq, fLeF_eq, lLeF_eq, lkcF_eq, aLesF_eq, rArgsF_eq, kMsF_eq, fMsF_eq, meFF_eq, callAF_eq]
  rfl
def ndAF (tS : Nat → List (Nat × Int × Int)) (N : List aNd) (cur : Option (Int × aRk)) (pc : Nat) (L : aLs) (F : aFs) : Bool := qanF (fun nd => (zA (Nat.beq nd.1 pc) ((zA (lLeF L nd.2.1) ((zA (fLeF tS F nd.2.2.1) (ndMF cur nd L))))))) N
theorem ndAF_eq : @ndAF = @ndA := by
  funext tS N cur pc L F
  unfold ndAF
  simp only [zA_eq, zO_eq, zN_eq, zI_eq, ileF_eq, imaxF_eq, iminF_eq, lkAF_eq, fctF_eq, gsegF_eq, gjoF_eq, gckF_eq, rd1F_eq, rdAF_eq, qflF_eq, qanF_eq, qalF_eq, qfdF_eq, sdjF_eq, kilJF_eq, sdmF_eq, kilMF_eq, filMF_eq, wMsF_eq, lngAF_eq, st1AF_eq, st2AF_eq, wrFF_eq, rfLF_eq, rfLsF_eq, rfFsF_eq, inIF_eq, inLF_eq, cst1F_eq, rItF_eq, rIF_eq, rLF_eq, br1F_eq, br2F_eq, ixF_eq, addAF_eq, subAF_eq, mulBF_eq, mulAF_eq, ex2F_eq, andAF_eq, orAF_eq, orBF_eq, shlAF_eq, shrAF_eq, divAF_eq, aLeF_eq, fLeF_eq, lLeF_eq, lkcF_eq, aLesF_eq, rArgsF_eq, kMsF_eq, fMsF_eq, meFF_eq, callAF_eq, ndMF_eq]
  exact qan_eq (p := fun nd => Nat.beq nd.1 pc && (lLe L nd.2.1 && (fLe tS F nd.2.2.1 && ndM cur nd L))) (l := N)
def cutAF (tS : Nat → List (Nat × Int × Int)) (N : List aNd) (sp : List (Nat × Nat)) (cur : Option (Int × aRk)) (pc : Nat) (L : aLs) (F : aFs) : Bool := match sp.find? (fun q => Nat.beq q.1 pc) with | some q => (match lkAF q.2 L with | some v => (zA (Nat.beq v.1 1) (spA tS N cur pc q.2 L F v.2.2.1 ((v.2.2.2.1 + 1) - v.2.2.1).toNat)) | none => false) | none => ndAF tS N cur pc L F
theorem cutAF_eq : @cutAF = @cutA := by
  delta cutAF
  simp only [zA_eq, zO_eq, zN_eq, zI_eq, ileF_eq, imaxF_eq, iminF_eq, lkAF_eq, fctF_eq, gsegF_eq, gjoF_eq, gckF_eq, rd1F_eq, rdAF_eq, qflF_eq, qanF_eq, qalF_eq, qfdF_eq, sdjF_eq, kilJF_eq, sdmF_eq, kilMF_eq, filMF_eq, wMsF_eq, lngAF_eq, st1AF_eq, st2AF_eq, wrFF_eq, rfLF_eq, rfLsF_eq, rfFsF_eq, inIF_eq, inLF_eq, cst1F_eq, rItF_eq, rIF_eq, rLF_eq, br1F_eq, br2F_eq, ixF_eq, addAF_eq, subAF_eq, mulBF_eq, mulAF_eq, ex2F_eq, andAF_eq, orAF_eq, orBF_eq, shlAF_eq, shrAF_eq, divAF_eq, aLeF_eq, fLeF_eq, lLeF_eq, lkcF_eq, aLesF_eq, rArgsF_eq, kMsF_eq, fMsF_eq, meFF_eq, callAF_eq, ndMF_eq, ndAF_eq]
  rfl
def nFF (n : Nat) (f : Nat → Bool) : Bool := Nat.rec (motive := fun _ => Bool) (f 0) (fun k _ => f (Nat.succ k)) n
theorem nFF_eq : nFF = nF := by
  funext n f
  cases n <;> rfl
def wkAF (tS : Nat → List (Nat × Int × Int)) (tR : Nat → Nat → Option Nat) (T : List aCt) (c : aCt) (ps : List (Nat × Bool)) (N : List aNd) (sp : List (Nat × Nat)) (cur : Option (Int × aRk)) (n : Nat) : Bool → Nat → aLs → List aV → aFs → Bool := Nat.rec (motive := fun _ => Bool → (Nat → (aLs → (List aV → (aFs → Bool))))) (fun _ _ _ _ _ => false) (fun _ ih fst pc L S F => (zI (zA (zN fst) (isN (msk N) pc)) (match S with | [] => cutAF tS N sp cur pc L F | _ => false) (nFF c.1 (fun k => nFF pc (fun p => match lkcF p (kcode k) with | some i => aiF tS tR c.2.2.2.2 k (callAF tS T c.2.2.2.2) (ih false) (retA tS c.2.2.2.1 cur.isNone ps) i p L S F | none => false))))) n
theorem wkAF_eq : @wkAF = @wkA := by
  delta wkAF
  simp only [zA_eq, zO_eq, zN_eq, zI_eq, ileF_eq, imaxF_eq, iminF_eq, lkAF_eq, fctF_eq, gsegF_eq, gjoF_eq, gckF_eq, rd1F_eq, rdAF_eq, qflF_eq, qanF_eq, qalF_eq, qfdF_eq, sdjF_eq, kilJF_eq, sdmF_eq, kilMF_eq, filMF_eq, wMsF_eq, lngAF_eq, st1AF_eq, st2AF_eq, wrFF_eq, rfLF_eq, rfLsF_eq, rfFsF_eq, inIF_eq, inLF_eq, cst1F_eq, rItF_eq, rIF_eq, rLF_eq, br1F_eq, br2F_eq, ixF_eq, addAF_eq, subAF_eq, mulBF_eq, mulAF_eq, ex2F_eq, andAF_eq, orAF_eq, orBF_eq, shlAF_eq, shrAF_eq, divAF_eq, aLeF_eq, fLeF_eq, lLeF_eq, lkcF_eq, aLesF_eq, rArgsF_eq, kMsF_eq, fMsF_eq, meFF_eq, callAF_eq, ndMF_eq, ndAF_eq, cutAF_eq, nFF_eq, aiF_eq]
  rfl
def chkF (tS : Nat → List (Nat × Int × Int)) (tR : Nat → Nat → Option Nat) (fu : Nat) (T : List aCt) (c : aCt) (N : List aNd) (sp : List (Nat × Nat)) : Bool := (zA (Nat.blt c.1 271) ((zA (Nat.beq (kmc c.1) 0) ((zA (Nat.beq (kms c.1) 0) ((zA (Nat.ble (c.2.1.map aCat).sum (knl c.1)) ((zA (c.2.1.all (fun v => v.2.2.2.2.2.isNone)) ((zA (N.all (fun nd => (zA (wfN nd) (noT nd.2.1)))) ((zA (wkAF tS tR T c (argP 0 c.2.1) N sp none fu false 0 (tagL (argL 0 c.2.1)) [] c.2.2.1) (N.all (fun nd => wkAF tS tR T c (argP 0 c.2.1) N sp (some (nd.2.2.2.1, nd.2.2.2.2)) fu true nd.1 (tagL nd.2.1) [] nd.2.2.1)))))))))))))))
theorem chkF_eq : @chkF = @chk := by
  delta chkF
  simp only [zA_eq, wkAF_eq]
  rfl
end NC
section FOK
variable {J : xM → Prop} {tS : Nat → List (Nat × Int × Int)} {tR : Nat → Nat → Option Nat} {T : List aCt} {c : aCt} {D : Nat} {N : List aNd} {sp : List (Nat × Nat)}
theorem chkF_ok (hT : ∀ c ∈ T, vC tS tR J D c) (hst : ∀ m0 m, gM m0 c.2.2.2.2 m → J m0 → J m) {fu : Nat} (h : chkF tS tR fu T c N sp = true) : vC tS tR J (D + 1) c := chk_ok hT hst (by rw [← chkF_eq]; exact h)
end FOK
