/-! the same for the families -/
noncomputable section NC
def chkRF (tS : Nat → List (Nat × Int × Int)) (tR : Nat → Nat → Option Nat) (fu : Nat) (T : List aCt) (c : aCt) (sp : List (Nat × Nat)) (Y : List aNd) (nd : aNd) : Bool := wkAF tS tR T c (argP 0 c.2.1) Y sp (some (nd.2.2.2.1, nd.2.2.2.2)) fu true nd.1 (tagL nd.2.1) [] nd.2.2.1
theorem chkRF_eq : @chkRF = @chkR := by
  delta chkRF
  simp only [zA_eq, zO_eq, zN_eq, zI_eq, lkAF_eq, ileF_eq, lLeF_eq, fLeF_eq, rfLF_eq, wkAF_eq]
  rfl
def chkXF (tS : Nat → List (Nat × Int × Int)) (tR : Nat → Nat → Option Nat) (fu : Nat) (T : List aCt) (c : aCt) (sp : List (Nat × Nat)) (Y : List aNd) (nd : aNd) : Bool := wkAF tS tR T c (argP 0 c.2.1) Y sp (some (1000000000, [])) fu true nd.1 (tagL nd.2.1) [] nd.2.2.1
theorem chkXF_eq : @chkXF = @chkX := by
  delta chkXF
  simp only [zA_eq, zO_eq, zN_eq, zI_eq, lkAF_eq, ileF_eq, lLeF_eq, fLeF_eq, rfLF_eq, wkAF_eq]
  rfl
def chkSF (tS : Nat → List (Nat × Int × Int)) (tR : Nat → Nat → Option Nat) (fu : Nat) (T : List aCt) (c : aCt) (sp : List (Nat × Nat)) (sj : Option Nat) (u : Int) (N X : List aNd) (nd : aNd) : Bool := match sj with | none => chkXF tS tR fu T c sp (N ++ X) nd | some j => (match lkAF j nd.2.1 with | some v => (zA (Nat.beq v.1 1) ((zA (ileF u v.2.2.1) ((zA (chkXF tS tR fu T c sp (N ++ X) (nd.1, rfLF j u u nd.2.1, nd.2.2.1, 0, [])) (X.any (fun y => (zA (Nat.beq y.1 nd.1) ((zA (lLeF (rfLF j (u + 1) v.2.2.2.1 nd.2.1) y.2.1) (fLeF tS nd.2.2.1 y.2.2.1))))))))))) | none => false)
theorem chkSF_eq : @chkSF = @chkS := by
  delta chkSF
  simp only [zA_eq, zO_eq, zN_eq, zI_eq, lkAF_eq, ileF_eq, lLeF_eq, fLeF_eq, rfLF_eq, chkXF_eq]
  rfl
def chkWF (tS : Nat → List (Nat × Int × Int)) (tR : Nat → Nat → Option Nat) (fu : Nat) (T : List aCt) (c : aCt) (sp : List (Nat × Nat)) (N0 X : List aNd) : Bool := (zA (chkC0 c) ((zA ((N0 ++ X).all wfN) ((zA (wkAF tS tR T c (argP 0 c.2.1) (N0 ++ X) sp none fu false 0 (tagL (argL 0 c.2.1)) [] c.2.2.1) (N0.all (chkRF tS tR fu T c sp (N0 ++ X))))))))
theorem chkWF_eq : @chkWF = @chkW := by
  delta chkWF
  simp only [zA_eq, zO_eq, zN_eq, zI_eq, lkAF_eq, ileF_eq, lLeF_eq, fLeF_eq, rfLF_eq, wkAF_eq, chkRF_eq]
  rfl
def chkUF (tS : Nat → List (Nat × Int × Int)) (tR : Nat → Nat → Option Nat) (fu : Nat) (T : List aCt) (c c' : aCt) (sp : List (Nat × Nat)) (sj : Option Nat) (u : Int) (N X X' : List aNd) : Bool := (zA ((N ++ X').all wfN) ((zA (N.all (chkRF tS tR fu T c sp (N ++ X'))) ((zA (X.all (chkSF tS tR fu T c sp sj u N X')) (oLe tS c'.2.2.2.1 c.2.2.2.1))))))
theorem chkUF_eq : @chkUF = @chkU := by
  delta chkUF
  simp only [zA_eq, zO_eq, zN_eq, zI_eq, lkAF_eq, ileF_eq, lLeF_eq, fLeF_eq, rfLF_eq, chkRF_eq, chkSF_eq]
  rfl
theorem chkW_F {tS : Nat → List (Nat × Int × Int)} {tR : Nat → Nat → Option Nat} {fu : Nat} {T : List aCt} {c : aCt} {sp : List (Nat × Nat)} {N0 X : List aNd} (h : chkWF tS tR fu T c sp N0 X = true) : chkW tS tR fu T c sp N0 X = true := by
  rw [← chkWF_eq]
  exact h
theorem chkU_F {tS : Nat → List (Nat × Int × Int)} {tR : Nat → Nat → Option Nat} {fu : Nat} {T : List aCt} {c c' : aCt} {sp : List (Nat × Nat)} {sj : Option Nat} {u : Int} {N X X' : List aNd} (h : chkUF tS tR fu T c c' sp sj u N X X' = true) : chkU tS tR fu T c c' sp sj u N X X' = true := by
  rw [← chkUF_eq]
  exact h
end NC
