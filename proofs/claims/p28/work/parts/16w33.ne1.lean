/-! a small number is not -1 -/
theorem nI_ne1 {k : Nat} (hk : k < 2147483648) : nI k ≠ -1 := fun q => by
  have h1 := congrArg Int32.toInt q
  rw [nI_toInt hk, show (-1 : Int32).toInt = -1 by decide] at h1
  omega
theorem opb_o {S w : Nat} : ∀ i, i < S → (opb S w).testBit i = !(w.testBit i) := fun i hi => by rw [opb_bit, decide_eq_true hi, Bool.true_and]
