/-! L2: the parser of the reference, recA -/
/-- X12_sum, text A -/
def fA6F (u : Nat) : aFs := [(314, 10, Int.ofNat u, 241), (314, 8, 0, 0)]
def fA6O (u : Nat) : List (Option aV × List (Int × Int) × aFs) := [(some (aIt), [(lLo, lHi)], [(314, 10, Int.ofNat u, 241)])]
def fA6c (u : Nat) : aCt := (170, [aR [314]], fA6F u, fA6O u, [(314, 10, 13)])
/-- X12_condition, text A -/
def fA7F (u : Nat) : aFs := [(314, 10, Int.ofNat u, 241), (314, 8, 0, 0)]
def fA7O (u : Nat) : List (Option aV × List (Int × Int) × aFs) := [(some (aI 0 1), [(lLo, lHi), (lLo, lHi), (lLo, lHi)], [(314, 10, Int.ofNat u, 241)])]
def fA7c (u : Nat) : aCt := (175, [aR [314], aIt, aIt], fA7F u, fA7O u, [(314, 10, 13)])
/-- X12_term, text A -/
def fA8F (u : Nat) : aFs := [(314, 10, Int.ofNat u, 241), (314, 8, 0, 0)]
def fA8O (u : Nat) : List (Option aV × List (Int × Int) × aFs) := [(some (aIt), [(lLo, lHi)], [(314, 10, Int.ofNat u, 241)])]
def fA8c (u : Nat) : aCt := (169, [aR [314]], fA8F u, fA8O u, [(314, 10, 13)])
/-- X12_part, text A -/
def fA9F (u : Nat) : aFs := [(314, 10, Int.ofNat u, 241), (314, 8, 0, 0)]
def fA9O (u : Nat) : List (Option aV × List (Int × Int) × aFs) := [(some (aI 0 1), [(lLo, lHi), (lLo, lHi), (lLo, lHi)], [(314, 10, Int.ofNat u, 241)])]
def fA9c (u : Nat) : aCt := (174, [aR [314], aIt, aIt], fA9F u, fA9O u, [(314, 10, 13)])
/-- X12_atom, text A -/
def fA13F (u : Nat) : aFs := [(314, 10, Int.ofNat u, 241), (314, 8, 0, 0)]
def fA13O (u : Nat) : List (Option aV × List (Int × Int) × aFs) := [(some (aIt), [(lLo, lHi)], [(314, 10, Int.ofNat u, 241)])]
def fA13c (u : Nat) : aCt := (168, [aR [314]], fA13F u, fA13O u, [(314, 10, 13)])
/-- X12_compares, text A -/
def fA14F (u : Nat) : aFs := [(314, 10, Int.ofNat u, 241), (314, 8, 0, 0)]
def fA14O (u : Nat) : List (Option aV × List (Int × Int) × aFs) := [(some (aI 0 1), [(lLo, lHi), (lLo, lHi), (lLo, lHi)], [(314, 10, Int.ofNat u, 241)])]
def fA14c (u : Nat) : aCt := (172, [aR [314], aIt, aIt], fA14F u, fA14O u, [(314, 10, 13)])
/-- X12_unit, text A -/
def fA16F (u : Nat) : aFs := [(314, 10, Int.ofNat u, 241), (314, 8, 0, 0)]
def fA16O (u : Nat) : List (Option aV × List (Int × Int) × aFs) := [(some (aI 0 1), [(lLo, lHi)], [(314, 10, Int.ofNat u, 241)])]
def fA16c (u : Nat) : aCt := (173, [aR [314]], fA16F u, fA16O u, [(314, 10, 13)])
def fA6T (u : Nat) : List aCt := [fA8c (u + 1), fA3c (u + 0), fA8c (u + 0), fA0c (u + 0), oA8c]
def fA6N0 (u : Nat) : List aNd := []
def fA6X (u : Nat) : List aNd := [(5, [(0, aR [314]), (1, aIt)], [(314, 10, Int.ofNat u, 241), (314, 8, 0, 0)], 0, [])]
def fA6N (u : Nat) : List aNd := [(22, [(0, aR [314]), (1, aIt)], [(314, 10, Int.ofNat u, 241), (314, 8, 0, 0), (314, 11, (-1), (-1))], 5, []),
  (31, [(0, aR [314]), (1, aIt)], [(314, 10, Int.ofNat u, 239), (314, 8, 0, 0), (314, 11, (-1), (-1))], 4, []),
  (46, [(0, aR [314]), (1, aIt), (2, aI 0 1)], [(314, 10, Int.ofNat u, 240), (314, 8, 0, 0), (314, 11, (-1), (-1))], 3, []),
  (62, [(0, aR [314]), (1, aIt), (2, aI 0 1), (3, aL iLo iHi)], [(314, 10, Int.ofNat (u + 1), 241), (314, 8, 0, 0)], 2, [])]
noncomputable def fA6up (u : Nat) : Bool := chkUF tS tRA 18 (fA6T u) (fA6c u) (fA6c (u + 1)) [] none u (fA6N u) (fA6X u) (fA6X (u + 1))
set_option maxRecDepth 100000 in
theorem fA6u_0 : (List.range 24).all (fun q => Nat.ble 242 (24 * 0 + q) || fA6up (24 * 0 + q)) = true := by decide +kernel
set_option maxRecDepth 100000 in
theorem fA6u_1 : (List.range 24).all (fun q => Nat.ble 242 (24 * 1 + q) || fA6up (24 * 1 + q)) = true := by decide +kernel
set_option maxRecDepth 100000 in
theorem fA6u_2 : (List.range 24).all (fun q => Nat.ble 242 (24 * 2 + q) || fA6up (24 * 2 + q)) = true := by decide +kernel
set_option maxRecDepth 100000 in
theorem fA6u_3 : (List.range 24).all (fun q => Nat.ble 242 (24 * 3 + q) || fA6up (24 * 3 + q)) = true := by decide +kernel
set_option maxRecDepth 100000 in
theorem fA6u_4 : (List.range 24).all (fun q => Nat.ble 242 (24 * 4 + q) || fA6up (24 * 4 + q)) = true := by decide +kernel
set_option maxRecDepth 100000 in
theorem fA6u_5 : (List.range 24).all (fun q => Nat.ble 242 (24 * 5 + q) || fA6up (24 * 5 + q)) = true := by decide +kernel
set_option maxRecDepth 100000 in
theorem fA6u_6 : (List.range 24).all (fun q => Nat.ble 242 (24 * 6 + q) || fA6up (24 * 6 + q)) = true := by decide +kernel
set_option maxRecDepth 100000 in
theorem fA6u_7 : (List.range 24).all (fun q => Nat.ble 242 (24 * 7 + q) || fA6up (24 * 7 + q)) = true := by decide +kernel
set_option maxRecDepth 100000 in
theorem fA6u_8 : (List.range 24).all (fun q => Nat.ble 242 (24 * 8 + q) || fA6up (24 * 8 + q)) = true := by decide +kernel
set_option maxRecDepth 100000 in
theorem fA6u_9 : (List.range 24).all (fun q => Nat.ble 242 (24 * 9 + q) || fA6up (24 * 9 + q)) = true := by decide +kernel
set_option maxRecDepth 100000 in
theorem fA6u_10 : (List.range 24).all (fun q => Nat.ble 242 (24 * 10 + q) || fA6up (24 * 10 + q)) = true := by decide +kernel
theorem fA6u : ∀ u, u < 242 → chkU tS tRA 18 (fA6T u) (fA6c u) (fA6c (u + 1)) [] none u (fA6N u) (fA6X u) (fA6X (u + 1)) = true := fun u hu => chkU_F (rng_k (p := fA6up) (n := 11) (s := 24) (fun k hk => match k, hk with
  | 0, _ => fA6u_0
  | 1, _ => fA6u_1
  | 2, _ => fA6u_2
  | 3, _ => fA6u_3
  | 4, _ => fA6u_4
  | 5, _ => fA6u_5
  | 6, _ => fA6u_6
  | 7, _ => fA6u_7
  | 8, _ => fA6u_8
  | 9, _ => fA6u_9
  | 10, _ => fA6u_10
  | k + 11, h => absurd h (by omega)) (by decide) (by decide) u hu)
noncomputable def fA6wp (u : Nat) : Bool := chkWF tS tRA 18 (fA6T u) (fA6c u) [] (fA6N0 u) (fA6X u)
set_option maxRecDepth 100000 in
theorem fA6w_0 : (List.range 24).all (fun q => Nat.ble 242 (24 * 0 + q) || fA6wp (24 * 0 + q)) = true := by decide +kernel
set_option maxRecDepth 100000 in
theorem fA6w_1 : (List.range 24).all (fun q => Nat.ble 242 (24 * 1 + q) || fA6wp (24 * 1 + q)) = true := by decide +kernel
set_option maxRecDepth 100000 in
theorem fA6w_2 : (List.range 24).all (fun q => Nat.ble 242 (24 * 2 + q) || fA6wp (24 * 2 + q)) = true := by decide +kernel
set_option maxRecDepth 100000 in
theorem fA6w_3 : (List.range 24).all (fun q => Nat.ble 242 (24 * 3 + q) || fA6wp (24 * 3 + q)) = true := by decide +kernel
set_option maxRecDepth 100000 in
theorem fA6w_4 : (List.range 24).all (fun q => Nat.ble 242 (24 * 4 + q) || fA6wp (24 * 4 + q)) = true := by decide +kernel
set_option maxRecDepth 100000 in
theorem fA6w_5 : (List.range 24).all (fun q => Nat.ble 242 (24 * 5 + q) || fA6wp (24 * 5 + q)) = true := by decide +kernel
set_option maxRecDepth 100000 in
theorem fA6w_6 : (List.range 24).all (fun q => Nat.ble 242 (24 * 6 + q) || fA6wp (24 * 6 + q)) = true := by decide +kernel
set_option maxRecDepth 100000 in
theorem fA6w_7 : (List.range 24).all (fun q => Nat.ble 242 (24 * 7 + q) || fA6wp (24 * 7 + q)) = true := by decide +kernel
set_option maxRecDepth 100000 in
theorem fA6w_8 : (List.range 24).all (fun q => Nat.ble 242 (24 * 8 + q) || fA6wp (24 * 8 + q)) = true := by decide +kernel
set_option maxRecDepth 100000 in
theorem fA6w_9 : (List.range 24).all (fun q => Nat.ble 242 (24 * 9 + q) || fA6wp (24 * 9 + q)) = true := by decide +kernel
set_option maxRecDepth 100000 in
theorem fA6w_10 : (List.range 24).all (fun q => Nat.ble 242 (24 * 10 + q) || fA6wp (24 * 10 + q)) = true := by decide +kernel
theorem fA6w : ∀ u, u < 242 → chkW tS tRA 18 (fA6T u) (fA6c u) [] (fA6N0 u) (fA6X u) = true := fun u hu => chkW_F (rng_k (p := fA6wp) (n := 11) (s := 24) (fun k hk => match k, hk with
  | 0, _ => fA6w_0
  | 1, _ => fA6w_1
  | 2, _ => fA6w_2
  | 3, _ => fA6w_3
  | 4, _ => fA6w_4
  | 5, _ => fA6w_5
  | 6, _ => fA6w_6
  | 7, _ => fA6w_7
  | 8, _ => fA6w_8
  | 9, _ => fA6w_9
  | 10, _ => fA6w_10
  | k + 11, h => absurd h (by omega)) (by decide) (by decide) u hu)
def fA7T (u : Nat) : List aCt := [fA9c (u + 1), fA9c (u + 0), fA0c (u + 0)]
def fA7N0 (u : Nat) : List aNd := []
def fA7X (u : Nat) : List aNd := [(7, [(0, aR [314]), (1, aIt), (2, aIt), (3, aI 0 1)], [(314, 10, Int.ofNat u, 241), (314, 8, 0, 0)], 0, [])]
def fA7N (u : Nat) : List aNd := [(42, [(0, aR [314]), (1, aIt), (2, aIt), (3, aI 0 1), (4, aI 0 1)], [(314, 10, Int.ofNat (u + 1), 241), (314, 8, 0, 0)], 2, [])]
noncomputable def fA7up (u : Nat) : Bool := chkUF tS tRA 27 (fA7T u) (fA7c u) (fA7c (u + 1)) [] none u (fA7N u) (fA7X u) (fA7X (u + 1))
set_option maxRecDepth 100000 in
theorem fA7u_0 : (List.range 24).all (fun q => Nat.ble 242 (24 * 0 + q) || fA7up (24 * 0 + q)) = true := by decide +kernel
set_option maxRecDepth 100000 in
theorem fA7u_1 : (List.range 24).all (fun q => Nat.ble 242 (24 * 1 + q) || fA7up (24 * 1 + q)) = true := by decide +kernel
set_option maxRecDepth 100000 in
theorem fA7u_2 : (List.range 24).all (fun q => Nat.ble 242 (24 * 2 + q) || fA7up (24 * 2 + q)) = true := by decide +kernel
set_option maxRecDepth 100000 in
theorem fA7u_3 : (List.range 24).all (fun q => Nat.ble 242 (24 * 3 + q) || fA7up (24 * 3 + q)) = true := by decide +kernel
set_option maxRecDepth 100000 in
theorem fA7u_4 : (List.range 24).all (fun q => Nat.ble 242 (24 * 4 + q) || fA7up (24 * 4 + q)) = true := by decide +kernel
set_option maxRecDepth 100000 in
theorem fA7u_5 : (List.range 24).all (fun q => Nat.ble 242 (24 * 5 + q) || fA7up (24 * 5 + q)) = true := by decide +kernel
set_option maxRecDepth 100000 in
theorem fA7u_6 : (List.range 24).all (fun q => Nat.ble 242 (24 * 6 + q) || fA7up (24 * 6 + q)) = true := by decide +kernel
set_option maxRecDepth 100000 in
theorem fA7u_7 : (List.range 24).all (fun q => Nat.ble 242 (24 * 7 + q) || fA7up (24 * 7 + q)) = true := by decide +kernel
set_option maxRecDepth 100000 in
theorem fA7u_8 : (List.range 24).all (fun q => Nat.ble 242 (24 * 8 + q) || fA7up (24 * 8 + q)) = true := by decide +kernel
set_option maxRecDepth 100000 in
theorem fA7u_9 : (List.range 24).all (fun q => Nat.ble 242 (24 * 9 + q) || fA7up (24 * 9 + q)) = true := by decide +kernel
set_option maxRecDepth 100000 in
theorem fA7u_10 : (List.range 24).all (fun q => Nat.ble 242 (24 * 10 + q) || fA7up (24 * 10 + q)) = true := by decide +kernel
theorem fA7u : ∀ u, u < 242 → chkU tS tRA 27 (fA7T u) (fA7c u) (fA7c (u + 1)) [] none u (fA7N u) (fA7X u) (fA7X (u + 1)) = true := fun u hu => chkU_F (rng_k (p := fA7up) (n := 11) (s := 24) (fun k hk => match k, hk with
  | 0, _ => fA7u_0
  | 1, _ => fA7u_1
  | 2, _ => fA7u_2
  | 3, _ => fA7u_3
  | 4, _ => fA7u_4
  | 5, _ => fA7u_5
  | 6, _ => fA7u_6
  | 7, _ => fA7u_7
  | 8, _ => fA7u_8
  | 9, _ => fA7u_9
  | 10, _ => fA7u_10
  | k + 11, h => absurd h (by omega)) (by decide) (by decide) u hu)
noncomputable def fA7wp (u : Nat) : Bool := chkWF tS tRA 27 (fA7T u) (fA7c u) [] (fA7N0 u) (fA7X u)
set_option maxRecDepth 100000 in
theorem fA7w_0 : (List.range 24).all (fun q => Nat.ble 242 (24 * 0 + q) || fA7wp (24 * 0 + q)) = true := by decide +kernel
set_option maxRecDepth 100000 in
theorem fA7w_1 : (List.range 24).all (fun q => Nat.ble 242 (24 * 1 + q) || fA7wp (24 * 1 + q)) = true := by decide +kernel
set_option maxRecDepth 100000 in
theorem fA7w_2 : (List.range 24).all (fun q => Nat.ble 242 (24 * 2 + q) || fA7wp (24 * 2 + q)) = true := by decide +kernel
set_option maxRecDepth 100000 in
theorem fA7w_3 : (List.range 24).all (fun q => Nat.ble 242 (24 * 3 + q) || fA7wp (24 * 3 + q)) = true := by decide +kernel
set_option maxRecDepth 100000 in
theorem fA7w_4 : (List.range 24).all (fun q => Nat.ble 242 (24 * 4 + q) || fA7wp (24 * 4 + q)) = true := by decide +kernel
set_option maxRecDepth 100000 in
theorem fA7w_5 : (List.range 24).all (fun q => Nat.ble 242 (24 * 5 + q) || fA7wp (24 * 5 + q)) = true := by decide +kernel
set_option maxRecDepth 100000 in
theorem fA7w_6 : (List.range 24).all (fun q => Nat.ble 242 (24 * 6 + q) || fA7wp (24 * 6 + q)) = true := by decide +kernel
set_option maxRecDepth 100000 in
theorem fA7w_7 : (List.range 24).all (fun q => Nat.ble 242 (24 * 7 + q) || fA7wp (24 * 7 + q)) = true := by decide +kernel
set_option maxRecDepth 100000 in
theorem fA7w_8 : (List.range 24).all (fun q => Nat.ble 242 (24 * 8 + q) || fA7wp (24 * 8 + q)) = true := by decide +kernel
set_option maxRecDepth 100000 in
theorem fA7w_9 : (List.range 24).all (fun q => Nat.ble 242 (24 * 9 + q) || fA7wp (24 * 9 + q)) = true := by decide +kernel
set_option maxRecDepth 100000 in
theorem fA7w_10 : (List.range 24).all (fun q => Nat.ble 242 (24 * 10 + q) || fA7wp (24 * 10 + q)) = true := by decide +kernel
theorem fA7w : ∀ u, u < 242 → chkW tS tRA 27 (fA7T u) (fA7c u) [] (fA7N0 u) (fA7X u) = true := fun u hu => chkW_F (rng_k (p := fA7wp) (n := 11) (s := 24) (fun k hk => match k, hk with
  | 0, _ => fA7w_0
  | 1, _ => fA7w_1
  | 2, _ => fA7w_2
  | 3, _ => fA7w_3
  | 4, _ => fA7w_4
  | 5, _ => fA7w_5
  | 6, _ => fA7w_6
  | 7, _ => fA7w_7
  | 8, _ => fA7w_8
  | 9, _ => fA7w_9
  | 10, _ => fA7w_10
  | k + 11, h => absurd h (by omega)) (by decide) (by decide) u hu)
def fA8T (u : Nat) : List aCt := [fA13c (u + 1), fA3c (u + 0), fA13c (u + 0), fA0c (u + 0), oA8c]
def fA8N0 (u : Nat) : List aNd := []
def fA8X (u : Nat) : List aNd := [(5, [(0, aR [314]), (1, aIt)], [(314, 10, Int.ofNat u, 241), (314, 8, 0, 0)], 0, [])]
def fA8N (u : Nat) : List aNd := [(22, [(0, aR [314]), (1, aIt)], [(314, 10, Int.ofNat u, 241), (314, 8, 0, 0), (314, 11, (-1), (-1))], 5, []),
  (31, [(0, aR [314]), (1, aIt)], [(314, 10, Int.ofNat u, 239), (314, 8, 0, 0), (314, 11, (-1), (-1))], 4, []),
  (46, [(0, aR [314]), (1, aIt), (2, aI 0 1)], [(314, 10, Int.ofNat u, 240), (314, 8, 0, 0), (314, 11, (-1), (-1))], 3, []),
  (62, [(0, aR [314]), (1, aIt), (2, aI 0 1), (3, aL iLo iHi)], [(314, 10, Int.ofNat (u + 1), 241), (314, 8, 0, 0)], 2, [])]
noncomputable def fA8up (u : Nat) : Bool := chkUF tS tRA 21 (fA8T u) (fA8c u) (fA8c (u + 1)) [] none u (fA8N u) (fA8X u) (fA8X (u + 1))
set_option maxRecDepth 100000 in
theorem fA8u_0 : (List.range 24).all (fun q => Nat.ble 242 (24 * 0 + q) || fA8up (24 * 0 + q)) = true := by decide +kernel
set_option maxRecDepth 100000 in
theorem fA8u_1 : (List.range 24).all (fun q => Nat.ble 242 (24 * 1 + q) || fA8up (24 * 1 + q)) = true := by decide +kernel
set_option maxRecDepth 100000 in
theorem fA8u_2 : (List.range 24).all (fun q => Nat.ble 242 (24 * 2 + q) || fA8up (24 * 2 + q)) = true := by decide +kernel
set_option maxRecDepth 100000 in
theorem fA8u_3 : (List.range 24).all (fun q => Nat.ble 242 (24 * 3 + q) || fA8up (24 * 3 + q)) = true := by decide +kernel
set_option maxRecDepth 100000 in
theorem fA8u_4 : (List.range 24).all (fun q => Nat.ble 242 (24 * 4 + q) || fA8up (24 * 4 + q)) = true := by decide +kernel
set_option maxRecDepth 100000 in
theorem fA8u_5 : (List.range 24).all (fun q => Nat.ble 242 (24 * 5 + q) || fA8up (24 * 5 + q)) = true := by decide +kernel
set_option maxRecDepth 100000 in
theorem fA8u_6 : (List.range 24).all (fun q => Nat.ble 242 (24 * 6 + q) || fA8up (24 * 6 + q)) = true := by decide +kernel
set_option maxRecDepth 100000 in
theorem fA8u_7 : (List.range 24).all (fun q => Nat.ble 242 (24 * 7 + q) || fA8up (24 * 7 + q)) = true := by decide +kernel
set_option maxRecDepth 100000 in
theorem fA8u_8 : (List.range 24).all (fun q => Nat.ble 242 (24 * 8 + q) || fA8up (24 * 8 + q)) = true := by decide +kernel
set_option maxRecDepth 100000 in
theorem fA8u_9 : (List.range 24).all (fun q => Nat.ble 242 (24 * 9 + q) || fA8up (24 * 9 + q)) = true := by decide +kernel
set_option maxRecDepth 100000 in
theorem fA8u_10 : (List.range 24).all (fun q => Nat.ble 242 (24 * 10 + q) || fA8up (24 * 10 + q)) = true := by decide +kernel
theorem fA8u : ∀ u, u < 242 → chkU tS tRA 21 (fA8T u) (fA8c u) (fA8c (u + 1)) [] none u (fA8N u) (fA8X u) (fA8X (u + 1)) = true := fun u hu => chkU_F (rng_k (p := fA8up) (n := 11) (s := 24) (fun k hk => match k, hk with
  | 0, _ => fA8u_0
  | 1, _ => fA8u_1
  | 2, _ => fA8u_2
  | 3, _ => fA8u_3
  | 4, _ => fA8u_4
  | 5, _ => fA8u_5
  | 6, _ => fA8u_6
  | 7, _ => fA8u_7
  | 8, _ => fA8u_8
  | 9, _ => fA8u_9
  | 10, _ => fA8u_10
  | k + 11, h => absurd h (by omega)) (by decide) (by decide) u hu)
noncomputable def fA8wp (u : Nat) : Bool := chkWF tS tRA 21 (fA8T u) (fA8c u) [] (fA8N0 u) (fA8X u)
set_option maxRecDepth 100000 in
theorem fA8w_0 : (List.range 24).all (fun q => Nat.ble 242 (24 * 0 + q) || fA8wp (24 * 0 + q)) = true := by decide +kernel
set_option maxRecDepth 100000 in
theorem fA8w_1 : (List.range 24).all (fun q => Nat.ble 242 (24 * 1 + q) || fA8wp (24 * 1 + q)) = true := by decide +kernel
set_option maxRecDepth 100000 in
theorem fA8w_2 : (List.range 24).all (fun q => Nat.ble 242 (24 * 2 + q) || fA8wp (24 * 2 + q)) = true := by decide +kernel
set_option maxRecDepth 100000 in
theorem fA8w_3 : (List.range 24).all (fun q => Nat.ble 242 (24 * 3 + q) || fA8wp (24 * 3 + q)) = true := by decide +kernel
set_option maxRecDepth 100000 in
theorem fA8w_4 : (List.range 24).all (fun q => Nat.ble 242 (24 * 4 + q) || fA8wp (24 * 4 + q)) = true := by decide +kernel
set_option maxRecDepth 100000 in
theorem fA8w_5 : (List.range 24).all (fun q => Nat.ble 242 (24 * 5 + q) || fA8wp (24 * 5 + q)) = true := by decide +kernel
set_option maxRecDepth 100000 in
theorem fA8w_6 : (List.range 24).all (fun q => Nat.ble 242 (24 * 6 + q) || fA8wp (24 * 6 + q)) = true := by decide +kernel
set_option maxRecDepth 100000 in
theorem fA8w_7 : (List.range 24).all (fun q => Nat.ble 242 (24 * 7 + q) || fA8wp (24 * 7 + q)) = true := by decide +kernel
set_option maxRecDepth 100000 in
theorem fA8w_8 : (List.range 24).all (fun q => Nat.ble 242 (24 * 8 + q) || fA8wp (24 * 8 + q)) = true := by decide +kernel
set_option maxRecDepth 100000 in
theorem fA8w_9 : (List.range 24).all (fun q => Nat.ble 242 (24 * 9 + q) || fA8wp (24 * 9 + q)) = true := by decide +kernel
set_option maxRecDepth 100000 in
theorem fA8w_10 : (List.range 24).all (fun q => Nat.ble 242 (24 * 10 + q) || fA8wp (24 * 10 + q)) = true := by decide +kernel
theorem fA8w : ∀ u, u < 242 → chkW tS tRA 21 (fA8T u) (fA8c u) [] (fA8N0 u) (fA8X u) = true := fun u hu => chkW_F (rng_k (p := fA8wp) (n := 11) (s := 24) (fun k hk => match k, hk with
  | 0, _ => fA8w_0
  | 1, _ => fA8w_1
  | 2, _ => fA8w_2
  | 3, _ => fA8w_3
  | 4, _ => fA8w_4
  | 5, _ => fA8w_5
  | 6, _ => fA8w_6
  | 7, _ => fA8w_7
  | 8, _ => fA8w_8
  | 9, _ => fA8w_9
  | 10, _ => fA8w_10
  | k + 11, h => absurd h (by omega)) (by decide) (by decide) u hu)
def fA9T (u : Nat) : List aCt := [fA16c (u + 1), fA14c (u + 0), fA16c (u + 0), fA0c (u + 0)]
def fA9N0 (u : Nat) : List aNd := []
def fA9X (u : Nat) : List aNd := [(18, [(0, aR [314]), (1, aIt), (2, aIt), (3, aI 0 1)], [(314, 10, Int.ofNat u, 241), (314, 8, 0, 0)], 0, [])]
def fA9N (u : Nat) : List aNd := [(51, [(0, aR [314]), (1, aIt), (2, aIt), (3, aI 0 1), (4, aI 0 1)], [(314, 10, Int.ofNat (u + 1), 241), (314, 8, 0, 0)], 2, [])]
noncomputable def fA9up (u : Nat) : Bool := chkUF tS tRA 25 (fA9T u) (fA9c u) (fA9c (u + 1)) [] none u (fA9N u) (fA9X u) (fA9X (u + 1))
set_option maxRecDepth 100000 in
theorem fA9u_0 : (List.range 24).all (fun q => Nat.ble 242 (24 * 0 + q) || fA9up (24 * 0 + q)) = true := by decide +kernel
set_option maxRecDepth 100000 in
theorem fA9u_1 : (List.range 24).all (fun q => Nat.ble 242 (24 * 1 + q) || fA9up (24 * 1 + q)) = true := by decide +kernel
set_option maxRecDepth 100000 in
theorem fA9u_2 : (List.range 24).all (fun q => Nat.ble 242 (24 * 2 + q) || fA9up (24 * 2 + q)) = true := by decide +kernel
set_option maxRecDepth 100000 in
theorem fA9u_3 : (List.range 24).all (fun q => Nat.ble 242 (24 * 3 + q) || fA9up (24 * 3 + q)) = true := by decide +kernel
set_option maxRecDepth 100000 in
theorem fA9u_4 : (List.range 24).all (fun q => Nat.ble 242 (24 * 4 + q) || fA9up (24 * 4 + q)) = true := by decide +kernel
set_option maxRecDepth 100000 in
theorem fA9u_5 : (List.range 24).all (fun q => Nat.ble 242 (24 * 5 + q) || fA9up (24 * 5 + q)) = true := by decide +kernel
set_option maxRecDepth 100000 in
theorem fA9u_6 : (List.range 24).all (fun q => Nat.ble 242 (24 * 6 + q) || fA9up (24 * 6 + q)) = true := by decide +kernel
set_option maxRecDepth 100000 in
theorem fA9u_7 : (List.range 24).all (fun q => Nat.ble 242 (24 * 7 + q) || fA9up (24 * 7 + q)) = true := by decide +kernel
set_option maxRecDepth 100000 in
theorem fA9u_8 : (List.range 24).all (fun q => Nat.ble 242 (24 * 8 + q) || fA9up (24 * 8 + q)) = true := by decide +kernel
set_option maxRecDepth 100000 in
theorem fA9u_9 : (List.range 24).all (fun q => Nat.ble 242 (24 * 9 + q) || fA9up (24 * 9 + q)) = true := by decide +kernel
set_option maxRecDepth 100000 in
theorem fA9u_10 : (List.range 24).all (fun q => Nat.ble 242 (24 * 10 + q) || fA9up (24 * 10 + q)) = true := by decide +kernel
theorem fA9u : ∀ u, u < 242 → chkU tS tRA 25 (fA9T u) (fA9c u) (fA9c (u + 1)) [] none u (fA9N u) (fA9X u) (fA9X (u + 1)) = true := fun u hu => chkU_F (rng_k (p := fA9up) (n := 11) (s := 24) (fun k hk => match k, hk with
  | 0, _ => fA9u_0
  | 1, _ => fA9u_1
  | 2, _ => fA9u_2
  | 3, _ => fA9u_3
  | 4, _ => fA9u_4
  | 5, _ => fA9u_5
  | 6, _ => fA9u_6
  | 7, _ => fA9u_7
  | 8, _ => fA9u_8
  | 9, _ => fA9u_9
  | 10, _ => fA9u_10
  | k + 11, h => absurd h (by omega)) (by decide) (by decide) u hu)
noncomputable def fA9wp (u : Nat) : Bool := chkWF tS tRA 25 (fA9T u) (fA9c u) [] (fA9N0 u) (fA9X u)
set_option maxRecDepth 100000 in
theorem fA9w_0 : (List.range 24).all (fun q => Nat.ble 242 (24 * 0 + q) || fA9wp (24 * 0 + q)) = true := by decide +kernel
set_option maxRecDepth 100000 in
theorem fA9w_1 : (List.range 24).all (fun q => Nat.ble 242 (24 * 1 + q) || fA9wp (24 * 1 + q)) = true := by decide +kernel
set_option maxRecDepth 100000 in
theorem fA9w_2 : (List.range 24).all (fun q => Nat.ble 242 (24 * 2 + q) || fA9wp (24 * 2 + q)) = true := by decide +kernel
set_option maxRecDepth 100000 in
theorem fA9w_3 : (List.range 24).all (fun q => Nat.ble 242 (24 * 3 + q) || fA9wp (24 * 3 + q)) = true := by decide +kernel
set_option maxRecDepth 100000 in
theorem fA9w_4 : (List.range 24).all (fun q => Nat.ble 242 (24 * 4 + q) || fA9wp (24 * 4 + q)) = true := by decide +kernel
set_option maxRecDepth 100000 in
theorem fA9w_5 : (List.range 24).all (fun q => Nat.ble 242 (24 * 5 + q) || fA9wp (24 * 5 + q)) = true := by decide +kernel
set_option maxRecDepth 100000 in
theorem fA9w_6 : (List.range 24).all (fun q => Nat.ble 242 (24 * 6 + q) || fA9wp (24 * 6 + q)) = true := by decide +kernel
set_option maxRecDepth 100000 in
theorem fA9w_7 : (List.range 24).all (fun q => Nat.ble 242 (24 * 7 + q) || fA9wp (24 * 7 + q)) = true := by decide +kernel
set_option maxRecDepth 100000 in
theorem fA9w_8 : (List.range 24).all (fun q => Nat.ble 242 (24 * 8 + q) || fA9wp (24 * 8 + q)) = true := by decide +kernel
set_option maxRecDepth 100000 in
theorem fA9w_9 : (List.range 24).all (fun q => Nat.ble 242 (24 * 9 + q) || fA9wp (24 * 9 + q)) = true := by decide +kernel
set_option maxRecDepth 100000 in
theorem fA9w_10 : (List.range 24).all (fun q => Nat.ble 242 (24 * 10 + q) || fA9wp (24 * 10 + q)) = true := by decide +kernel
theorem fA9w : ∀ u, u < 242 → chkW tS tRA 25 (fA9T u) (fA9c u) [] (fA9N0 u) (fA9X u) = true := fun u hu => chkW_F (rng_k (p := fA9wp) (n := 11) (s := 24) (fun k hk => match k, hk with
  | 0, _ => fA9w_0
  | 1, _ => fA9w_1
  | 2, _ => fA9w_2
  | 3, _ => fA9w_3
  | 4, _ => fA9w_4
  | 5, _ => fA9w_5
  | 6, _ => fA9w_6
  | 7, _ => fA9w_7
  | 8, _ => fA9w_8
  | 9, _ => fA9w_9
  | 10, _ => fA9w_10
  | k + 11, h => absurd h (by omega)) (by decide) (by decide) u hu)
def fA13T (u : Nat) : List aCt := [fA10c (u + 4), fA1c (u + 4), fA10c (u + 3), fA10c (u + 2), fA6c (u + 1), fA12c (u + 1), fA10c (u + 1), fA0c (u + 0), fA10c (u + 0), fA1c (u + 0), fA11c (u + 0), oA16c, oA17c]
def fA13N0 (u : Nat) : List aNd := [(90, [(0, aR [314]), (1, aI (-1) 255), (2, aI 0 0), (3, aI 0 0)], [(314, 10, Int.ofNat u, 241), (314, 8, 0, 0)], 5, []),
  (90, [(0, aR [314]), (1, aI (-1) 255), (2, aI (-176) 79), (3, aI 1 1)], [(314, 10, Int.ofNat (u + 1), 240), (314, 8, 0, 0), (314, 11, (-1), (-1))], 4, []),
  (90, [(0, aR [314]), (1, aI (-1) 255), (2, aI (-1936) 869), (3, aI 2 2)], [(314, 10, Int.ofNat (u + 2), 240), (314, 8, 0, 0), (314, 11, (-1), (-1))], 3, []),
  (90, [(0, aR [314]), (1, aI (-1) 255), (2, aI (-19536) 8769), (3, aI 3 3)], [(314, 10, Int.ofNat (u + 3), 240), (314, 8, 0, 0), (314, 11, (-1), (-1))], 2, []),
  (90, [(0, aR [314]), (1, aI (-1) 255), (2, aI (-195536) 87769), (3, aI 4 4)], [(314, 10, Int.ofNat (u + 4), 240), (314, 8, 0, 0), (314, 11, (-1), (-1))], 1, [])]
noncomputable def fA13wp (u : Nat) : Bool := chkWF tS tRA 41 (fA13T u) (fA13c u) [(90, 3)] (fA13N0 u) []
set_option maxRecDepth 100000 in
theorem fA13w_0 : (List.range 24).all (fun q => Nat.ble 242 (24 * 0 + q) || fA13wp (24 * 0 + q)) = true := by decide +kernel
set_option maxRecDepth 100000 in
theorem fA13w_1 : (List.range 24).all (fun q => Nat.ble 242 (24 * 1 + q) || fA13wp (24 * 1 + q)) = true := by decide +kernel
set_option maxRecDepth 100000 in
theorem fA13w_2 : (List.range 24).all (fun q => Nat.ble 242 (24 * 2 + q) || fA13wp (24 * 2 + q)) = true := by decide +kernel
set_option maxRecDepth 100000 in
theorem fA13w_3 : (List.range 24).all (fun q => Nat.ble 242 (24 * 3 + q) || fA13wp (24 * 3 + q)) = true := by decide +kernel
set_option maxRecDepth 100000 in
theorem fA13w_4 : (List.range 24).all (fun q => Nat.ble 242 (24 * 4 + q) || fA13wp (24 * 4 + q)) = true := by decide +kernel
set_option maxRecDepth 100000 in
theorem fA13w_5 : (List.range 24).all (fun q => Nat.ble 242 (24 * 5 + q) || fA13wp (24 * 5 + q)) = true := by decide +kernel
set_option maxRecDepth 100000 in
theorem fA13w_6 : (List.range 24).all (fun q => Nat.ble 242 (24 * 6 + q) || fA13wp (24 * 6 + q)) = true := by decide +kernel
set_option maxRecDepth 100000 in
theorem fA13w_7 : (List.range 24).all (fun q => Nat.ble 242 (24 * 7 + q) || fA13wp (24 * 7 + q)) = true := by decide +kernel
set_option maxRecDepth 100000 in
theorem fA13w_8 : (List.range 24).all (fun q => Nat.ble 242 (24 * 8 + q) || fA13wp (24 * 8 + q)) = true := by decide +kernel
set_option maxRecDepth 100000 in
theorem fA13w_9 : (List.range 24).all (fun q => Nat.ble 242 (24 * 9 + q) || fA13wp (24 * 9 + q)) = true := by decide +kernel
set_option maxRecDepth 100000 in
theorem fA13w_10 : (List.range 24).all (fun q => Nat.ble 242 (24 * 10 + q) || fA13wp (24 * 10 + q)) = true := by decide +kernel
theorem fA13w : ∀ u, u < 242 → chkW tS tRA 41 (fA13T u) (fA13c u) [(90, 3)] (fA13N0 u) [] = true := fun u hu => chkW_F (rng_k (p := fA13wp) (n := 11) (s := 24) (fun k hk => match k, hk with
  | 0, _ => fA13w_0
  | 1, _ => fA13w_1
  | 2, _ => fA13w_2
  | 3, _ => fA13w_3
  | 4, _ => fA13w_4
  | 5, _ => fA13w_5
  | 6, _ => fA13w_6
  | 7, _ => fA13w_7
  | 8, _ => fA13w_8
  | 9, _ => fA13w_9
  | 10, _ => fA13w_10
  | k + 11, h => absurd h (by omega)) (by decide) (by decide) u hu)
def fA14T (u : Nat) : List aCt := [fA6c (u + 1), fA6c (u + 0), fA0c (u + 0), fA1c (u + 0), oA3c, oA4c]
def fA14N0 (u : Nat) : List aNd := [(13, [(0, aR [314]), (1, aIt), (2, aIt), (3, aIt)], [(314, 10, Int.ofNat u, 241), (314, 8, 0, 0)], 2, []),
  (58, [(0, aR [314]), (1, aIt), (2, aIt), (3, aIt), (4, aI 60 62), (5, aIt)], [(314, 10, Int.ofNat (u + 1), 241), (314, 8, 0, 0)], 1, [])]
noncomputable def fA14wp (u : Nat) : Bool := chkWF tS tRA 27 (fA14T u) (fA14c u) [] (fA14N0 u) []
set_option maxRecDepth 100000 in
theorem fA14w_0 : (List.range 24).all (fun q => Nat.ble 242 (24 * 0 + q) || fA14wp (24 * 0 + q)) = true := by decide +kernel
set_option maxRecDepth 100000 in
theorem fA14w_1 : (List.range 24).all (fun q => Nat.ble 242 (24 * 1 + q) || fA14wp (24 * 1 + q)) = true := by decide +kernel
set_option maxRecDepth 100000 in
theorem fA14w_2 : (List.range 24).all (fun q => Nat.ble 242 (24 * 2 + q) || fA14wp (24 * 2 + q)) = true := by decide +kernel
set_option maxRecDepth 100000 in
theorem fA14w_3 : (List.range 24).all (fun q => Nat.ble 242 (24 * 3 + q) || fA14wp (24 * 3 + q)) = true := by decide +kernel
set_option maxRecDepth 100000 in
theorem fA14w_4 : (List.range 24).all (fun q => Nat.ble 242 (24 * 4 + q) || fA14wp (24 * 4 + q)) = true := by decide +kernel
set_option maxRecDepth 100000 in
theorem fA14w_5 : (List.range 24).all (fun q => Nat.ble 242 (24 * 5 + q) || fA14wp (24 * 5 + q)) = true := by decide +kernel
set_option maxRecDepth 100000 in
theorem fA14w_6 : (List.range 24).all (fun q => Nat.ble 242 (24 * 6 + q) || fA14wp (24 * 6 + q)) = true := by decide +kernel
set_option maxRecDepth 100000 in
theorem fA14w_7 : (List.range 24).all (fun q => Nat.ble 242 (24 * 7 + q) || fA14wp (24 * 7 + q)) = true := by decide +kernel
set_option maxRecDepth 100000 in
theorem fA14w_8 : (List.range 24).all (fun q => Nat.ble 242 (24 * 8 + q) || fA14wp (24 * 8 + q)) = true := by decide +kernel
set_option maxRecDepth 100000 in
theorem fA14w_9 : (List.range 24).all (fun q => Nat.ble 242 (24 * 9 + q) || fA14wp (24 * 9 + q)) = true := by decide +kernel
set_option maxRecDepth 100000 in
theorem fA14w_10 : (List.range 24).all (fun q => Nat.ble 242 (24 * 10 + q) || fA14wp (24 * 10 + q)) = true := by decide +kernel
theorem fA14w : ∀ u, u < 242 → chkW tS tRA 27 (fA14T u) (fA14c u) [] (fA14N0 u) [] = true := fun u hu => chkW_F (rng_k (p := fA14wp) (n := 11) (s := 24) (fun k hk => match k, hk with
  | 0, _ => fA14w_0
  | 1, _ => fA14w_1
  | 2, _ => fA14w_2
  | 3, _ => fA14w_3
  | 4, _ => fA14w_4
  | 5, _ => fA14w_5
  | 6, _ => fA14w_6
  | 7, _ => fA14w_7
  | 8, _ => fA14w_8
  | 9, _ => fA14w_9
  | 10, _ => fA14w_10
  | k + 11, h => absurd h (by omega)) (by decide) (by decide) u hu)
def fA16T (u : Nat) : List aCt := [fA7c (u + 1), fA15c (u + 1), fA16c (u + 1), fA0c (u + 0), fA14c (u + 0), fA11c (u + 0)]
def fA16N0 (u : Nat) : List aNd := []
noncomputable def fA16wp (u : Nat) : Bool := chkWF tS tRA 36 (fA16T u) (fA16c u) [] (fA16N0 u) []
set_option maxRecDepth 100000 in
theorem fA16w_0 : (List.range 24).all (fun q => Nat.ble 242 (24 * 0 + q) || fA16wp (24 * 0 + q)) = true := by decide +kernel
set_option maxRecDepth 100000 in
theorem fA16w_1 : (List.range 24).all (fun q => Nat.ble 242 (24 * 1 + q) || fA16wp (24 * 1 + q)) = true := by decide +kernel
set_option maxRecDepth 100000 in
theorem fA16w_2 : (List.range 24).all (fun q => Nat.ble 242 (24 * 2 + q) || fA16wp (24 * 2 + q)) = true := by decide +kernel
set_option maxRecDepth 100000 in
theorem fA16w_3 : (List.range 24).all (fun q => Nat.ble 242 (24 * 3 + q) || fA16wp (24 * 3 + q)) = true := by decide +kernel
set_option maxRecDepth 100000 in
theorem fA16w_4 : (List.range 24).all (fun q => Nat.ble 242 (24 * 4 + q) || fA16wp (24 * 4 + q)) = true := by decide +kernel
set_option maxRecDepth 100000 in
theorem fA16w_5 : (List.range 24).all (fun q => Nat.ble 242 (24 * 5 + q) || fA16wp (24 * 5 + q)) = true := by decide +kernel
set_option maxRecDepth 100000 in
theorem fA16w_6 : (List.range 24).all (fun q => Nat.ble 242 (24 * 6 + q) || fA16wp (24 * 6 + q)) = true := by decide +kernel
set_option maxRecDepth 100000 in
theorem fA16w_7 : (List.range 24).all (fun q => Nat.ble 242 (24 * 7 + q) || fA16wp (24 * 7 + q)) = true := by decide +kernel
set_option maxRecDepth 100000 in
theorem fA16w_8 : (List.range 24).all (fun q => Nat.ble 242 (24 * 8 + q) || fA16wp (24 * 8 + q)) = true := by decide +kernel
set_option maxRecDepth 100000 in
theorem fA16w_9 : (List.range 24).all (fun q => Nat.ble 242 (24 * 9 + q) || fA16wp (24 * 9 + q)) = true := by decide +kernel
set_option maxRecDepth 100000 in
theorem fA16w_10 : (List.range 24).all (fun q => Nat.ble 242 (24 * 10 + q) || fA16wp (24 * 10 + q)) = true := by decide +kernel
theorem fA16w : ∀ u, u < 242 → chkW tS tRA 36 (fA16T u) (fA16c u) [] (fA16N0 u) [] = true := fun u hu => chkW_F (rng_k (p := fA16wp) (n := 11) (s := 24) (fun k hk => match k, hk with
  | 0, _ => fA16w_0
  | 1, _ => fA16w_1
  | 2, _ => fA16w_2
  | 3, _ => fA16w_3
  | 4, _ => fA16w_4
  | 5, _ => fA16w_5
  | 6, _ => fA16w_6
  | 7, _ => fA16w_7
  | 8, _ => fA16w_8
  | 9, _ => fA16w_9
  | 10, _ => fA16w_10
  | k + 11, h => absurd h (by omega)) (by decide) (by decide) u hu)
theorem fA13_s (n : Nat) (h_X12_sum : ∀ w, 242 ≤ w + (n) → vC tS tRA jM (3 * (n) + 12) (fA6c w)) : ∀ w, 242 ≤ w + (n + 1) → vC tS tRA jM (3 * (n + 1) + 10) (fA13c w) := by
  intro w hw
  by_cases h : w < 242
  · exact vUq (D := 3 * (n + 1) + 10) (famE (D := 3 * (n + 1) + 9) (Fu := fA13F) (Ou := fA13O) (jM_st (c := (0, [], [], [], [(314, 10, 13)])) (by decide)) fA13w h (fa_cons (vUq (fA10 (w + 4)) (by omega)) (fa_cons (vUq (fA1 (w + 4)) (by omega)) (fa_cons (vUq (fA10 (w + 3)) (by omega)) (fa_cons (vUq (fA10 (w + 2)) (by omega)) (fa_cons (vUq (h_X12_sum (w + 1) (by omega)) (by omega)) (fa_cons (vUq (fA12 (w + 1)) (by omega)) (fa_cons (vUq (fA10 (w + 1)) (by omega)) (fa_cons (vUq (fA0 (w + 0)) (by omega)) (fa_cons (vUq (fA10 (w + 0)) (by omega)) (fa_cons (vUq (fA1 (w + 0)) (by omega)) (fa_cons (vUq (fA11 (w + 0)) (by omega)) (fa_cons (vUq oA16 (by omega)) (fa_cons (vUq oA17 (by omega)) (fa_nil))))))))))))))) (by omega)
  · exact vC_vac (vacAt (by omega))
theorem fA8_s (n : Nat) (h_X12_atom : ∀ w, 242 ≤ w + (n + 1) → vC tS tRA jM (3 * (n + 1) + 10) (fA13c w)) : ∀ w, 242 ≤ w + (n + 1) → vC tS tRA jM (3 * (n + 1) + 11) (fA8c w) := by
  intro w hw
  by_cases h : w < 242
  · exact vUq (D := 3 * (n + 1) + 11) (famW (D := 3 * (n + 1) + 10) (Fu := fA8F) (Ou := fA8O) (jM_st (c := (0, [], [], [], [(314, 10, 13)])) (by decide)) fA8u (by decide +kernel) fA8w h (fa_cons (vUq (h_X12_atom (w + 1) (by omega)) (by omega)) (fa_cons (vUq (fA3 (w + 0)) (by omega)) (fa_cons (vUq (h_X12_atom (w + 0) (by omega)) (by omega)) (fa_cons (vUq (fA0 (w + 0)) (by omega)) (fa_cons (vUq oA8 (by omega)) (fa_nil)))))) (fun u _ _ => fa_cons (vUq (h_X12_atom (u + 1) (by omega)) (by omega)) (fa_cons (vUq (fA3 (u + 0)) (by omega)) (fa_cons (vUq (h_X12_atom (u + 0) (by omega)) (by omega)) (fa_cons (vUq (fA0 (u + 0)) (by omega)) (fa_cons (vUq oA8 (by omega)) (fa_nil))))))) (by omega)
  · exact vC_vac (vacAt (by omega))
theorem fA6_s (n : Nat) (h_X12_term : ∀ w, 242 ≤ w + (n + 1) → vC tS tRA jM (3 * (n + 1) + 11) (fA8c w)) : ∀ w, 242 ≤ w + (n + 1) → vC tS tRA jM (3 * (n + 1) + 12) (fA6c w) := by
  intro w hw
  by_cases h : w < 242
  · exact vUq (D := 3 * (n + 1) + 12) (famW (D := 3 * (n + 1) + 11) (Fu := fA6F) (Ou := fA6O) (jM_st (c := (0, [], [], [], [(314, 10, 13)])) (by decide)) fA6u (by decide +kernel) fA6w h (fa_cons (vUq (h_X12_term (w + 1) (by omega)) (by omega)) (fa_cons (vUq (fA3 (w + 0)) (by omega)) (fa_cons (vUq (h_X12_term (w + 0) (by omega)) (by omega)) (fa_cons (vUq (fA0 (w + 0)) (by omega)) (fa_cons (vUq oA8 (by omega)) (fa_nil)))))) (fun u _ _ => fa_cons (vUq (h_X12_term (u + 1) (by omega)) (by omega)) (fa_cons (vUq (fA3 (u + 0)) (by omega)) (fa_cons (vUq (h_X12_term (u + 0) (by omega)) (by omega)) (fa_cons (vUq (fA0 (u + 0)) (by omega)) (fa_cons (vUq oA8 (by omega)) (fa_nil))))))) (by omega)
  · exact vC_vac (vacAt (by omega))
theorem fA14_s (n : Nat) (h_X12_sum : ∀ w, 242 ≤ w + (n + 1) → vC tS tRA jM (3 * (n + 1) + 12) (fA6c w)) : ∀ w, 242 ≤ w + (n + 1) → vC tS tRA jM (3 * (n + 1) + 13) (fA14c w) := by
  intro w hw
  by_cases h : w < 242
  · exact vUq (D := 3 * (n + 1) + 13) (famE (D := 3 * (n + 1) + 12) (Fu := fA14F) (Ou := fA14O) (jM_st (c := (0, [], [], [], [(314, 10, 13)])) (by decide)) fA14w h (fa_cons (vUq (h_X12_sum (w + 1) (by omega)) (by omega)) (fa_cons (vUq (h_X12_sum (w + 0) (by omega)) (by omega)) (fa_cons (vUq (fA0 (w + 0)) (by omega)) (fa_cons (vUq (fA1 (w + 0)) (by omega)) (fa_cons (vUq oA3 (by omega)) (fa_cons (vUq oA4 (by omega)) (fa_nil)))))))) (by omega)
  · exact vC_vac (vacAt (by omega))
theorem fA16_s (n : Nat) (h_X12_condition : ∀ w, 242 ≤ w + (n) → vC tS tRA jM (3 * (n) + 16) (fA7c w)) (h_X12_unit : ∀ w, 242 ≤ w + (n) → vC tS tRA jM (3 * (n) + 14) (fA16c w)) (h_X12_compares : ∀ w, 242 ≤ w + (n + 1) → vC tS tRA jM (3 * (n + 1) + 13) (fA14c w)) : ∀ w, 242 ≤ w + (n + 1) → vC tS tRA jM (3 * (n + 1) + 14) (fA16c w) := by
  intro w hw
  by_cases h : w < 242
  · exact vUq (D := 3 * (n + 1) + 14) (famE (D := 3 * (n + 1) + 13) (Fu := fA16F) (Ou := fA16O) (jM_st (c := (0, [], [], [], [(314, 10, 13)])) (by decide)) fA16w h (fa_cons (vUq (h_X12_condition (w + 1) (by omega)) (by omega)) (fa_cons (vUq (fA15 (w + 1)) (by omega)) (fa_cons (vUq (h_X12_unit (w + 1) (by omega)) (by omega)) (fa_cons (vUq (fA0 (w + 0)) (by omega)) (fa_cons (vUq (h_X12_compares (w + 0) (by omega)) (by omega)) (fa_cons (vUq (fA11 (w + 0)) (by omega)) (fa_nil)))))))) (by omega)
  · exact vC_vac (vacAt (by omega))
theorem fA9_s (n : Nat) (h_X12_unit : ∀ w, 242 ≤ w + (n + 1) → vC tS tRA jM (3 * (n + 1) + 14) (fA16c w)) (h_X12_compares : ∀ w, 242 ≤ w + (n + 1) → vC tS tRA jM (3 * (n + 1) + 13) (fA14c w)) : ∀ w, 242 ≤ w + (n + 1) → vC tS tRA jM (3 * (n + 1) + 15) (fA9c w) := by
  intro w hw
  by_cases h : w < 242
  · exact vUq (D := 3 * (n + 1) + 15) (famW (D := 3 * (n + 1) + 14) (Fu := fA9F) (Ou := fA9O) (jM_st (c := (0, [], [], [], [(314, 10, 13)])) (by decide)) fA9u (by decide +kernel) fA9w h (fa_cons (vUq (h_X12_unit (w + 1) (by omega)) (by omega)) (fa_cons (vUq (h_X12_compares (w + 0) (by omega)) (by omega)) (fa_cons (vUq (h_X12_unit (w + 0) (by omega)) (by omega)) (fa_cons (vUq (fA0 (w + 0)) (by omega)) (fa_nil))))) (fun u _ _ => fa_cons (vUq (h_X12_unit (u + 1) (by omega)) (by omega)) (fa_cons (vUq (h_X12_compares (u + 0) (by omega)) (by omega)) (fa_cons (vUq (h_X12_unit (u + 0) (by omega)) (by omega)) (fa_cons (vUq (fA0 (u + 0)) (by omega)) (fa_nil)))))) (by omega)
  · exact vC_vac (vacAt (by omega))
theorem fA7_s (n : Nat) (h_X12_part : ∀ w, 242 ≤ w + (n + 1) → vC tS tRA jM (3 * (n + 1) + 15) (fA9c w)) : ∀ w, 242 ≤ w + (n + 1) → vC tS tRA jM (3 * (n + 1) + 16) (fA7c w) := by
  intro w hw
  by_cases h : w < 242
  · exact vUq (D := 3 * (n + 1) + 16) (famW (D := 3 * (n + 1) + 15) (Fu := fA7F) (Ou := fA7O) (jM_st (c := (0, [], [], [], [(314, 10, 13)])) (by decide)) fA7u (by decide +kernel) fA7w h (fa_cons (vUq (h_X12_part (w + 1) (by omega)) (by omega)) (fa_cons (vUq (h_X12_part (w + 0) (by omega)) (by omega)) (fa_cons (vUq (fA0 (w + 0)) (by omega)) (fa_nil)))) (fun u _ _ => fa_cons (vUq (h_X12_part (u + 1) (by omega)) (by omega)) (fa_cons (vUq (h_X12_part (u + 0) (by omega)) (by omega)) (fa_cons (vUq (fA0 (u + 0)) (by omega)) (fa_nil))))) (by omega)
  · exact vC_vac (vacAt (by omega))
theorem fA_all (n : Nat) : (∀ w, 242 ≤ w + (n) → vC tS tRA jM (3 * (n) + 10) (fA13c w)) ∧ (∀ w, 242 ≤ w + (n) → vC tS tRA jM (3 * (n) + 11) (fA8c w)) ∧ (∀ w, 242 ≤ w + (n) → vC tS tRA jM (3 * (n) + 12) (fA6c w)) ∧ (∀ w, 242 ≤ w + (n) → vC tS tRA jM (3 * (n) + 13) (fA14c w)) ∧ (∀ w, 242 ≤ w + (n) → vC tS tRA jM (3 * (n) + 14) (fA16c w)) ∧ (∀ w, 242 ≤ w + (n) → vC tS tRA jM (3 * (n) + 15) (fA9c w)) ∧ (∀ w, 242 ≤ w + (n) → vC tS tRA jM (3 * (n) + 16) (fA7c w)) := by
  induction n with
  | zero => exact ⟨fun w hw => vC_vac (vacAt (by omega)), fun w hw => vC_vac (vacAt (by omega)), fun w hw => vC_vac (vacAt (by omega)), fun w hw => vC_vac (vacAt (by omega)), fun w hw => vC_vac (vacAt (by omega)), fun w hw => vC_vac (vacAt (by omega)), fun w hw => vC_vac (vacAt (by omega))⟩
  | succ n ih =>
    obtain ⟨h0, h1, h2, h3, h4, h5, h6⟩ := ih
    have k_h0 := fA13_s n h2
    have k_h1 := fA8_s n k_h0
    have k_h2 := fA6_s n k_h1
    have k_h3 := fA14_s n k_h2
    have k_h4 := fA16_s n h6 h4 k_h3
    have k_h5 := fA9_s n k_h4 k_h3
    have k_h6 := fA7_s n k_h5
    exact ⟨k_h0, k_h1, k_h2, k_h3, k_h4, k_h5, k_h6⟩
theorem fA13 (w : Nat) : vC tS tRA jM 800 (fA13c w) := vUq ((fA_all 242).1 w (by omega)) (by decide)
theorem fA8 (w : Nat) : vC tS tRA jM 800 (fA8c w) := vUq ((fA_all 242).2.1 w (by omega)) (by decide)
theorem fA6 (w : Nat) : vC tS tRA jM 800 (fA6c w) := vUq ((fA_all 242).2.2.1 w (by omega)) (by decide)
theorem fA14 (w : Nat) : vC tS tRA jM 800 (fA14c w) := vUq ((fA_all 242).2.2.2.1 w (by omega)) (by decide)
theorem fA16 (w : Nat) : vC tS tRA jM 800 (fA16c w) := vUq ((fA_all 242).2.2.2.2.1 w (by omega)) (by decide)
theorem fA9 (w : Nat) : vC tS tRA jM 800 (fA9c w) := vUq ((fA_all 242).2.2.2.2.2.1 w (by omega)) (by decide)
theorem fA7 (w : Nat) : vC tS tRA jM 800 (fA7c w) := vUq ((fA_all 242).2.2.2.2.2.2 w (by omega)) (by decide)
/-- X12_clause, text A -/
def fA5F (u : Nat) : aFs := [(314, 10, Int.ofNat u, 241), (314, 8, 0, 0)]
def fA5O (u : Nat) : List (Option aV × List (Int × Int) × aFs) := [(none, [(lLo, lHi)], [(314, 10, Int.ofNat u, 241)])]
def fA5c (u : Nat) : aCt := (176, [aR [314]], fA5F u, fA5O u, [(314, 10, 13), (314, 14, 15), (314, 17, 18)])
def fA5T (u : Nat) : List aCt := [fA6c (u + 3), fA3c (u + 2), fA6c (u + 2), fA0c (u + 2), fA7c (u + 2), fA4c (u + 2), fA2c (u + 1), fA0c (u + 0), fA1c (u + 0), oA2c, oA3c, oA4c, oA5c]
def fA5N0 (u : Nat) : List aNd := [(134, [(0, aR [314]), (1, aI 121 121), (2, aI 0 1), (3, aIt), (4, aI (-1) 255)], [(314, 10, Int.ofNat (u + 2), 241), (314, 8, 0, 0)], 1, [])]
noncomputable def fA5wp (u : Nat) : Bool := chkWF tS tRA 61 (fA5T u) (fA5c u) [] (fA5N0 u) []
set_option maxRecDepth 100000 in
theorem fA5w_0 : (List.range 24).all (fun q => Nat.ble 242 (24 * 0 + q) || fA5wp (24 * 0 + q)) = true := by decide +kernel
set_option maxRecDepth 100000 in
theorem fA5w_1 : (List.range 24).all (fun q => Nat.ble 242 (24 * 1 + q) || fA5wp (24 * 1 + q)) = true := by decide +kernel
set_option maxRecDepth 100000 in
theorem fA5w_2 : (List.range 24).all (fun q => Nat.ble 242 (24 * 2 + q) || fA5wp (24 * 2 + q)) = true := by decide +kernel
set_option maxRecDepth 100000 in
theorem fA5w_3 : (List.range 24).all (fun q => Nat.ble 242 (24 * 3 + q) || fA5wp (24 * 3 + q)) = true := by decide +kernel
set_option maxRecDepth 100000 in
theorem fA5w_4 : (List.range 24).all (fun q => Nat.ble 242 (24 * 4 + q) || fA5wp (24 * 4 + q)) = true := by decide +kernel
set_option maxRecDepth 100000 in
theorem fA5w_5 : (List.range 24).all (fun q => Nat.ble 242 (24 * 5 + q) || fA5wp (24 * 5 + q)) = true := by decide +kernel
set_option maxRecDepth 100000 in
theorem fA5w_6 : (List.range 24).all (fun q => Nat.ble 242 (24 * 6 + q) || fA5wp (24 * 6 + q)) = true := by decide +kernel
set_option maxRecDepth 100000 in
theorem fA5w_7 : (List.range 24).all (fun q => Nat.ble 242 (24 * 7 + q) || fA5wp (24 * 7 + q)) = true := by decide +kernel
set_option maxRecDepth 100000 in
theorem fA5w_8 : (List.range 24).all (fun q => Nat.ble 242 (24 * 8 + q) || fA5wp (24 * 8 + q)) = true := by decide +kernel
set_option maxRecDepth 100000 in
theorem fA5w_9 : (List.range 24).all (fun q => Nat.ble 242 (24 * 9 + q) || fA5wp (24 * 9 + q)) = true := by decide +kernel
set_option maxRecDepth 100000 in
theorem fA5w_10 : (List.range 24).all (fun q => Nat.ble 242 (24 * 10 + q) || fA5wp (24 * 10 + q)) = true := by decide +kernel
theorem fA5w : ∀ u, u < 242 → chkW tS tRA 61 (fA5T u) (fA5c u) [] (fA5N0 u) [] = true := fun u hu => chkW_F (rng_k (p := fA5wp) (n := 11) (s := 24) (fun k hk => match k, hk with
  | 0, _ => fA5w_0
  | 1, _ => fA5w_1
  | 2, _ => fA5w_2
  | 3, _ => fA5w_3
  | 4, _ => fA5w_4
  | 5, _ => fA5w_5
  | 6, _ => fA5w_6
  | 7, _ => fA5w_7
  | 8, _ => fA5w_8
  | 9, _ => fA5w_9
  | 10, _ => fA5w_10
  | k + 11, h => absurd h (by omega)) (by decide) (by decide) u hu)
theorem fA5 (w : Nat) : vC tS tRA jM 801 (fA5c w) := by
  by_cases h : w < 242
  · exact famE (Fu := fA5F) (Ou := fA5O) (jM_st (c := (0, [], [], [], [(314, 10, 13), (314, 14, 15), (314, 17, 18)])) (by decide)) fA5w h (fa_cons (vUq (fA6 (w + 3)) (by decide)) (fa_cons (vUq (fA3 (w + 2)) (by decide)) (fa_cons (vUq (fA6 (w + 2)) (by decide)) (fa_cons (vUq (fA0 (w + 2)) (by decide)) (fa_cons (vUq (fA7 (w + 2)) (by decide)) (fa_cons (vUq (fA4 (w + 2)) (by decide)) (fa_cons (vUq (fA2 (w + 1)) (by decide)) (fa_cons (vUq (fA0 (w + 0)) (by decide)) (fa_cons (vUq (fA1 (w + 0)) (by decide)) (fa_cons (vUq oA2 (by decide)) (fa_cons (vUq oA3 (by decide)) (fa_cons (vUq oA4 (by decide)) (fa_cons (vUq oA5 (by decide)) (fa_nil))))))))))))))
  · exact vC_vac (vacAt (by omega))
