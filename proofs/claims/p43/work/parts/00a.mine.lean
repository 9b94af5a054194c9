/-! what the names' part asks for and doesn't hold: the word of an array class over an array type, carried from state to state -/
def va_AOA (t : FieldType) (U : State) : Prop := (Cond.arrayOver (.array t)).before #[] U = true
theorem va_AOA.use {t : FieldType} {A : Array Value} {U : State} (h : va_AOA t U) : (Cond.arrayOver (.array t)).before A U = true := h
theorem aoa_of {t : FieldType} {A : Array Value} {U : State} (h : (Cond.arrayOver (.array t)).before A U = true) : va_AOA t U := h
/-- the tables alone decide it -/
theorem aoa_moved {t : FieldType} {u U : State} (hvm : u.vm.Alike U.vm) (h : va_AOA t u) : va_AOA t U := by
  obtain ⟨comp, cA, kA, e1, e2, e3, e4, e5⟩ := arrayOverA_spec h
  obtain ⟨kB, e3', ek⟩ := hvm.2.2 _ _ e3
  have i1 : U.vm.findClass (FieldType.array t).toString = some comp := by rw [hvm.findClass]; exact e1
  have i5 : U.vm.findClass ("[" ++ (FieldType.array t).toString) = some cA := by rw [hvm.findClass]; exact e5
  have i4 : kB.kind = .array comp (.array t) := by rw [ek]; exact e4
  have i2 : (U.vm.classes.findIdx? fun (x : Class) => match x.kind with | .array component _ => component == comp | _ => false) = some cA := by
    have a := va_idx_bare u.vm comp
    have b := va_idx_bare U.vm comp
    first | rw [hvm.bare_eq] at b | rw [← hvm.bare_eq] at b
    exact (b.symm.trans a).trans e2
  show (Cond.arrayOver (.array t)).before #[] U = true
  unfold Cond.before Cond.holds
  simp only [Cond.value]
  rw [i1, Option.bind_some]
  refine (congrArg (fun o : Option Nat => (o.bind (fun c => (U.vm.classes[c]?).map fun (k : Class) => match k.kind with | .array _ ty => decide (ty = FieldType.array t) && decide (U.vm.findClass ("[" ++ (FieldType.array t).toString) = some c) | _ => false) == some true)) i2).trans ?_
  simp [e3', i4, i5]
