/-! L2: the parser of the reference, var -/
def tRA (a i : Nat) : Option Nat := bif Nat.beq a 314 && Nat.beq i 5 then some 315 else tR a i
def tRB (a i : Nat) : Option Nat := bif Nat.beq a 314 && Nat.beq i 5 then some 316 else tR a i
