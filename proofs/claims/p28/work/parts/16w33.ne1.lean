/-! a small number is not -1 -/
theorem nI_ne1 {k : Nat} (hk : k < 2147483648) : nI k ≠ -1 := fun q => by
  have h1 := congrArg Int32.toInt q
  rw [nI_toInt hk, show (-1 : Int32).toInt = -1 by decide] at h1
  omega
