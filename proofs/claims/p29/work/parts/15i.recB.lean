/-! L2: the parser of the reference, recB -/
/-- X12_sum, text B -/
def fB6F (u : Nat) : aFs := [(314, 10, Int.ofNat u, 241)]
def fB6O (u : Nat) : List (Option aV × List (Int × Int) × aFs) := [(some (aIt), [(lLo, lHi)], [(314, 10, Int.ofNat u, 241)])]
def fB6c (u : Nat) : aCt := (170, [aR [314]], fB6F u, fB6O u, [(314, 10, 13)])
/-- X12_condition, text B -/
def fB7F (u : Nat) : aFs := [(314, 10, Int.ofNat u, 241)]
def fB7O (u : Nat) : List (Option aV × List (Int × Int) × aFs) := [(some (aI 0 1), [(lLo, lHi), (lLo, lHi), (lLo, lHi)], [(314, 10, Int.ofNat u, 241)])]
def fB7c (u : Nat) : aCt := (175, [aR [314], aIt, aIt], fB7F u, fB7O u, [(314, 10, 13)])
/-- X12_term, text B -/
def fB8F (u : Nat) : aFs := [(314, 10, Int.ofNat u, 241)]
def fB8O (u : Nat) : List (Option aV × List (Int × Int) × aFs) := [(some (aIt), [(lLo, lHi)], [(314, 10, Int.ofNat u, 241)])]
def fB8c (u : Nat) : aCt := (169, [aR [314]], fB8F u, fB8O u, [(314, 10, 13)])
/-- X12_part, text B -/
def fB9F (u : Nat) : aFs := [(314, 10, Int.ofNat u, 241)]
def fB9O (u : Nat) : List (Option aV × List (Int × Int) × aFs) := [(some (aI 0 1), [(lLo, lHi), (lLo, lHi), (lLo, lHi)], [(314, 10, Int.ofNat u, 241)])]
def fB9c (u : Nat) : aCt := (174, [aR [314], aIt, aIt], fB9F u, fB9O u, [(314, 10, 13)])
/-- X12_atom, text B -/
def fB13F (u : Nat) : aFs := [(314, 10, Int.ofNat u, 241)]
def fB13O (u : Nat) : List (Option aV × List (Int × Int) × aFs) := [(some (aIt), [(lLo, lHi)], [(314, 10, Int.ofNat u, 241)])]
def fB13c (u : Nat) : aCt := (168, [aR [314]], fB13F u, fB13O u, [(314, 10, 13)])
/-- X12_compares, text B -/
def fB14F (u : Nat) : aFs := [(314, 10, Int.ofNat u, 241)]
def fB14O (u : Nat) : List (Option aV × List (Int × Int) × aFs) := [(some (aI 0 1), [(lLo, lHi), (lLo, lHi), (lLo, lHi)], [(314, 10, Int.ofNat u, 241)])]
def fB14c (u : Nat) : aCt := (172, [aR [314], aIt, aIt], fB14F u, fB14O u, [(314, 10, 13)])
/-- X12_unit, text B -/
def fB16F (u : Nat) : aFs := [(314, 10, Int.ofNat u, 241)]
def fB16O (u : Nat) : List (Option aV × List (Int × Int) × aFs) := [(some (aI 0 1), [(lLo, lHi)], [(314, 10, Int.ofNat u, 241)])]
def fB16c (u : Nat) : aCt := (173, [aR [314]], fB16F u, fB16O u, [(314, 10, 13)])
def fB6T (u : Nat) : List aCt := [fB8c (u + 1), fB3c (u + 0), fB8c (u + 0), fB0c (u + 0), oB8c]
def fB6N0 (u : Nat) : List aNd := []
def fB6X (u : Nat) : List aNd := [(5, [(0, aR [314]), (1, aIt)], [(314, 10, Int.ofNat u, 241)], 0, [])]
def fB6N (u : Nat) : List aNd := [(22, [(0, aR [314]), (1, aIt)], [(314, 10, Int.ofNat u, 241), (314, 11, (-1), (-1))], 5, []),
  (31, [(0, aR [314]), (1, aIt)], [(314, 10, Int.ofNat u, 239), (314, 11, (-1), (-1))], 4, []),
  (46, [(0, aR [314]), (1, aIt), (2, aI 0 1)], [(314, 10, Int.ofNat u, 240), (314, 11, (-1), (-1))], 3, []),
  (62, [(0, aR [314]), (1, aIt), (2, aI 0 1), (3, aL iLo iHi)], [(314, 10, Int.ofNat (u + 1), 241)], 2, [])]
noncomputable def fB6up (u : Nat) : Bool := chkUF tS tRB 18 (fB6T u) (fB6c u) (fB6c (u + 1)) [] none u (fB6N u) (fB6X u) (fB6X (u + 1))
set_option maxRecDepth 100000 in
theorem fB6u_0 : (List.range 24).all (fun q => Nat.ble 242 (24 * 0 + q) || fB6up (24 * 0 + q)) = true := by decide +kernel
set_option maxRecDepth 100000 in
theorem fB6u_1 : (List.range 24).all (fun q => Nat.ble 242 (24 * 1 + q) || fB6up (24 * 1 + q)) = true := by decide +kernel
set_option maxRecDepth 100000 in
theorem fB6u_2 : (List.range 24).all (fun q => Nat.ble 242 (24 * 2 + q) || fB6up (24 * 2 + q)) = true := by decide +kernel
set_option maxRecDepth 100000 in
theorem fB6u_3 : (List.range 24).all (fun q => Nat.ble 242 (24 * 3 + q) || fB6up (24 * 3 + q)) = true := by decide +kernel
set_option maxRecDepth 100000 in
theorem fB6u_4 : (List.range 24).all (fun q => Nat.ble 242 (24 * 4 + q) || fB6up (24 * 4 + q)) = true := by decide +kernel
set_option maxRecDepth 100000 in
theorem fB6u_5 : (List.range 24).all (fun q => Nat.ble 242 (24 * 5 + q) || fB6up (24 * 5 + q)) = true := by decide +kernel
set_option maxRecDepth 100000 in
theorem fB6u_6 : (List.range 24).all (fun q => Nat.ble 242 (24 * 6 + q) || fB6up (24 * 6 + q)) = true := by decide +kernel
set_option maxRecDepth 100000 in
theorem fB6u_7 : (List.range 24).all (fun q => Nat.ble 242 (24 * 7 + q) || fB6up (24 * 7 + q)) = true := by decide +kernel
set_option maxRecDepth 100000 in
theorem fB6u_8 : (List.range 24).all (fun q => Nat.ble 242 (24 * 8 + q) || fB6up (24 * 8 + q)) = true := by decide +kernel
set_option maxRecDepth 100000 in
theorem fB6u_9 : (List.range 24).all (fun q => Nat.ble 242 (24 * 9 + q) || fB6up (24 * 9 + q)) = true := by decide +kernel
set_option maxRecDepth 100000 in
theorem fB6u_10 : (List.range 24).all (fun q => Nat.ble 242 (24 * 10 + q) || fB6up (24 * 10 + q)) = true := by decide +kernel
theorem fB6u : ∀ u, u < 242 → chkU tS tRB 18 (fB6T u) (fB6c u) (fB6c (u + 1)) [] none u (fB6N u) (fB6X u) (fB6X (u + 1)) = true := fun u hu => chkU_F (rng_k (p := fB6up) (n := 11) (s := 24) (fun k hk => match k, hk with
  | 0, _ => fB6u_0
  | 1, _ => fB6u_1
  | 2, _ => fB6u_2
  | 3, _ => fB6u_3
  | 4, _ => fB6u_4
  | 5, _ => fB6u_5
  | 6, _ => fB6u_6
  | 7, _ => fB6u_7
  | 8, _ => fB6u_8
  | 9, _ => fB6u_9
  | 10, _ => fB6u_10
  | k + 11, h => absurd h (by omega)) (by decide) (by decide) u hu)
noncomputable def fB6wp (u : Nat) : Bool := chkWF tS tRB 18 (fB6T u) (fB6c u) [] (fB6N0 u) (fB6X u)
set_option maxRecDepth 100000 in
theorem fB6w_0 : (List.range 24).all (fun q => Nat.ble 242 (24 * 0 + q) || fB6wp (24 * 0 + q)) = true := by decide +kernel
set_option maxRecDepth 100000 in
theorem fB6w_1 : (List.range 24).all (fun q => Nat.ble 242 (24 * 1 + q) || fB6wp (24 * 1 + q)) = true := by decide +kernel
set_option maxRecDepth 100000 in
theorem fB6w_2 : (List.range 24).all (fun q => Nat.ble 242 (24 * 2 + q) || fB6wp (24 * 2 + q)) = true := by decide +kernel
set_option maxRecDepth 100000 in
theorem fB6w_3 : (List.range 24).all (fun q => Nat.ble 242 (24 * 3 + q) || fB6wp (24 * 3 + q)) = true := by decide +kernel
set_option maxRecDepth 100000 in
theorem fB6w_4 : (List.range 24).all (fun q => Nat.ble 242 (24 * 4 + q) || fB6wp (24 * 4 + q)) = true := by decide +kernel
set_option maxRecDepth 100000 in
theorem fB6w_5 : (List.range 24).all (fun q => Nat.ble 242 (24 * 5 + q) || fB6wp (24 * 5 + q)) = true := by decide +kernel
set_option maxRecDepth 100000 in
theorem fB6w_6 : (List.range 24).all (fun q => Nat.ble 242 (24 * 6 + q) || fB6wp (24 * 6 + q)) = true := by decide +kernel
set_option maxRecDepth 100000 in
theorem fB6w_7 : (List.range 24).all (fun q => Nat.ble 242 (24 * 7 + q) || fB6wp (24 * 7 + q)) = true := by decide +kernel
set_option maxRecDepth 100000 in
theorem fB6w_8 : (List.range 24).all (fun q => Nat.ble 242 (24 * 8 + q) || fB6wp (24 * 8 + q)) = true := by decide +kernel
set_option maxRecDepth 100000 in
theorem fB6w_9 : (List.range 24).all (fun q => Nat.ble 242 (24 * 9 + q) || fB6wp (24 * 9 + q)) = true := by decide +kernel
set_option maxRecDepth 100000 in
theorem fB6w_10 : (List.range 24).all (fun q => Nat.ble 242 (24 * 10 + q) || fB6wp (24 * 10 + q)) = true := by decide +kernel
theorem fB6w : ∀ u, u < 242 → chkW tS tRB 18 (fB6T u) (fB6c u) [] (fB6N0 u) (fB6X u) = true := fun u hu => chkW_F (rng_k (p := fB6wp) (n := 11) (s := 24) (fun k hk => match k, hk with
  | 0, _ => fB6w_0
  | 1, _ => fB6w_1
  | 2, _ => fB6w_2
  | 3, _ => fB6w_3
  | 4, _ => fB6w_4
  | 5, _ => fB6w_5
  | 6, _ => fB6w_6
  | 7, _ => fB6w_7
  | 8, _ => fB6w_8
  | 9, _ => fB6w_9
  | 10, _ => fB6w_10
  | k + 11, h => absurd h (by omega)) (by decide) (by decide) u hu)
def fB7T (u : Nat) : List aCt := [fB9c (u + 1), fB9c (u + 0), fB0c (u + 0)]
def fB7N0 (u : Nat) : List aNd := []
def fB7X (u : Nat) : List aNd := [(7, [(0, aR [314]), (1, aIt), (2, aIt), (3, aI 0 1)], [(314, 10, Int.ofNat u, 241)], 0, [])]
def fB7N (u : Nat) : List aNd := [(42, [(0, aR [314]), (1, aIt), (2, aIt), (3, aI 0 1), (4, aI 0 1)], [(314, 10, Int.ofNat (u + 1), 241)], 2, [])]
noncomputable def fB7up (u : Nat) : Bool := chkUF tS tRB 27 (fB7T u) (fB7c u) (fB7c (u + 1)) [] none u (fB7N u) (fB7X u) (fB7X (u + 1))
set_option maxRecDepth 100000 in
theorem fB7u_0 : (List.range 24).all (fun q => Nat.ble 242 (24 * 0 + q) || fB7up (24 * 0 + q)) = true := by decide +kernel
set_option maxRecDepth 100000 in
theorem fB7u_1 : (List.range 24).all (fun q => Nat.ble 242 (24 * 1 + q) || fB7up (24 * 1 + q)) = true := by decide +kernel
set_option maxRecDepth 100000 in
theorem fB7u_2 : (List.range 24).all (fun q => Nat.ble 242 (24 * 2 + q) || fB7up (24 * 2 + q)) = true := by decide +kernel
set_option maxRecDepth 100000 in
theorem fB7u_3 : (List.range 24).all (fun q => Nat.ble 242 (24 * 3 + q) || fB7up (24 * 3 + q)) = true := by decide +kernel
set_option maxRecDepth 100000 in
theorem fB7u_4 : (List.range 24).all (fun q => Nat.ble 242 (24 * 4 + q) || fB7up (24 * 4 + q)) = true := by decide +kernel
set_option maxRecDepth 100000 in
theorem fB7u_5 : (List.range 24).all (fun q => Nat.ble 242 (24 * 5 + q) || fB7up (24 * 5 + q)) = true := by decide +kernel
set_option maxRecDepth 100000 in
theorem fB7u_6 : (List.range 24).all (fun q => Nat.ble 242 (24 * 6 + q) || fB7up (24 * 6 + q)) = true := by decide +kernel
set_option maxRecDepth 100000 in
theorem fB7u_7 : (List.range 24).all (fun q => Nat.ble 242 (24 * 7 + q) || fB7up (24 * 7 + q)) = true := by decide +kernel
set_option maxRecDepth 100000 in
theorem fB7u_8 : (List.range 24).all (fun q => Nat.ble 242 (24 * 8 + q) || fB7up (24 * 8 + q)) = true := by decide +kernel
set_option maxRecDepth 100000 in
theorem fB7u_9 : (List.range 24).all (fun q => Nat.ble 242 (24 * 9 + q) || fB7up (24 * 9 + q)) = true := by decide +kernel
set_option maxRecDepth 100000 in
theorem fB7u_10 : (List.range 24).all (fun q => Nat.ble 242 (24 * 10 + q) || fB7up (24 * 10 + q)) = true := by decide +kernel
theorem fB7u : ∀ u, u < 242 → chkU tS tRB 27 (fB7T u) (fB7c u) (fB7c (u + 1)) [] none u (fB7N u) (fB7X u) (fB7X (u + 1)) = true := fun u hu => chkU_F (rng_k (p := fB7up) (n := 11) (s := 24) (fun k hk => match k, hk with
  | 0, _ => fB7u_0
  | 1, _ => fB7u_1
  | 2, _ => fB7u_2
  | 3, _ => fB7u_3
  | 4, _ => fB7u_4
  | 5, _ => fB7u_5
  | 6, _ => fB7u_6
  | 7, _ => fB7u_7
  | 8, _ => fB7u_8
  | 9, _ => fB7u_9
  | 10, _ => fB7u_10
  | k + 11, h => absurd h (by omega)) (by decide) (by decide) u hu)
noncomputable def fB7wp (u : Nat) : Bool := chkWF tS tRB 27 (fB7T u) (fB7c u) [] (fB7N0 u) (fB7X u)
set_option maxRecDepth 100000 in
theorem fB7w_0 : (List.range 24).all (fun q => Nat.ble 242 (24 * 0 + q) || fB7wp (24 * 0 + q)) = true := by decide +kernel
set_option maxRecDepth 100000 in
theorem fB7w_1 : (List.range 24).all (fun q => Nat.ble 242 (24 * 1 + q) || fB7wp (24 * 1 + q)) = true := by decide +kernel
set_option maxRecDepth 100000 in
theorem fB7w_2 : (List.range 24).all (fun q => Nat.ble 242 (24 * 2 + q) || fB7wp (24 * 2 + q)) = true := by decide +kernel
set_option maxRecDepth 100000 in
theorem fB7w_3 : (List.range 24).all (fun q => Nat.ble 242 (24 * 3 + q) || fB7wp (24 * 3 + q)) = true := by decide +kernel
set_option maxRecDepth 100000 in
theorem fB7w_4 : (List.range 24).all (fun q => Nat.ble 242 (24 * 4 + q) || fB7wp (24 * 4 + q)) = true := by decide +kernel
set_option maxRecDepth 100000 in
theorem fB7w_5 : (List.range 24).all (fun q => Nat.ble 242 (24 * 5 + q) || fB7wp (24 * 5 + q)) = true := by decide +kernel
set_option maxRecDepth 100000 in
theorem fB7w_6 : (List.range 24).all (fun q => Nat.ble 242 (24 * 6 + q) || fB7wp (24 * 6 + q)) = true := by decide +kernel
set_option maxRecDepth 100000 in
theorem fB7w_7 : (List.range 24).all (fun q => Nat.ble 242 (24 * 7 + q) || fB7wp (24 * 7 + q)) = true := by decide +kernel
set_option maxRecDepth 100000 in
theorem fB7w_8 : (List.range 24).all (fun q => Nat.ble 242 (24 * 8 + q) || fB7wp (24 * 8 + q)) = true := by decide +kernel
set_option maxRecDepth 100000 in
theorem fB7w_9 : (List.range 24).all (fun q => Nat.ble 242 (24 * 9 + q) || fB7wp (24 * 9 + q)) = true := by decide +kernel
set_option maxRecDepth 100000 in
theorem fB7w_10 : (List.range 24).all (fun q => Nat.ble 242 (24 * 10 + q) || fB7wp (24 * 10 + q)) = true := by decide +kernel
theorem fB7w : ∀ u, u < 242 → chkW tS tRB 27 (fB7T u) (fB7c u) [] (fB7N0 u) (fB7X u) = true := fun u hu => chkW_F (rng_k (p := fB7wp) (n := 11) (s := 24) (fun k hk => match k, hk with
  | 0, _ => fB7w_0
  | 1, _ => fB7w_1
  | 2, _ => fB7w_2
  | 3, _ => fB7w_3
  | 4, _ => fB7w_4
  | 5, _ => fB7w_5
  | 6, _ => fB7w_6
  | 7, _ => fB7w_7
  | 8, _ => fB7w_8
  | 9, _ => fB7w_9
  | 10, _ => fB7w_10
  | k + 11, h => absurd h (by omega)) (by decide) (by decide) u hu)
def fB8T (u : Nat) : List aCt := [fB13c (u + 1), fB3c (u + 0), fB13c (u + 0), fB0c (u + 0), oB8c]
def fB8N0 (u : Nat) : List aNd := []
def fB8X (u : Nat) : List aNd := [(5, [(0, aR [314]), (1, aIt)], [(314, 10, Int.ofNat u, 241)], 0, [])]
def fB8N (u : Nat) : List aNd := [(22, [(0, aR [314]), (1, aIt)], [(314, 10, Int.ofNat u, 241), (314, 11, (-1), (-1))], 5, []),
  (31, [(0, aR [314]), (1, aIt)], [(314, 10, Int.ofNat u, 239), (314, 11, (-1), (-1))], 4, []),
  (46, [(0, aR [314]), (1, aIt), (2, aI 0 1)], [(314, 10, Int.ofNat u, 240), (314, 11, (-1), (-1))], 3, []),
  (62, [(0, aR [314]), (1, aIt), (2, aI 0 1), (3, aL iLo iHi)], [(314, 10, Int.ofNat (u + 1), 241)], 2, [])]
noncomputable def fB8up (u : Nat) : Bool := chkUF tS tRB 21 (fB8T u) (fB8c u) (fB8c (u + 1)) [] none u (fB8N u) (fB8X u) (fB8X (u + 1))
set_option maxRecDepth 100000 in
theorem fB8u_0 : (List.range 24).all (fun q => Nat.ble 242 (24 * 0 + q) || fB8up (24 * 0 + q)) = true := by decide +kernel
set_option maxRecDepth 100000 in
theorem fB8u_1 : (List.range 24).all (fun q => Nat.ble 242 (24 * 1 + q) || fB8up (24 * 1 + q)) = true := by decide +kernel
set_option maxRecDepth 100000 in
theorem fB8u_2 : (List.range 24).all (fun q => Nat.ble 242 (24 * 2 + q) || fB8up (24 * 2 + q)) = true := by decide +kernel
set_option maxRecDepth 100000 in
theorem fB8u_3 : (List.range 24).all (fun q => Nat.ble 242 (24 * 3 + q) || fB8up (24 * 3 + q)) = true := by decide +kernel
set_option maxRecDepth 100000 in
theorem fB8u_4 : (List.range 24).all (fun q => Nat.ble 242 (24 * 4 + q) || fB8up (24 * 4 + q)) = true := by decide +kernel
set_option maxRecDepth 100000 in
theorem fB8u_5 : (List.range 24).all (fun q => Nat.ble 242 (24 * 5 + q) || fB8up (24 * 5 + q)) = true := by decide +kernel
set_option maxRecDepth 100000 in
theorem fB8u_6 : (List.range 24).all (fun q => Nat.ble 242 (24 * 6 + q) || fB8up (24 * 6 + q)) = true := by decide +kernel
set_option maxRecDepth 100000 in
theorem fB8u_7 : (List.range 24).all (fun q => Nat.ble 242 (24 * 7 + q) || fB8up (24 * 7 + q)) = true := by decide +kernel
set_option maxRecDepth 100000 in
theorem fB8u_8 : (List.range 24).all (fun q => Nat.ble 242 (24 * 8 + q) || fB8up (24 * 8 + q)) = true := by decide +kernel
set_option maxRecDepth 100000 in
theorem fB8u_9 : (List.range 24).all (fun q => Nat.ble 242 (24 * 9 + q) || fB8up (24 * 9 + q)) = true := by decide +kernel
set_option maxRecDepth 100000 in
theorem fB8u_10 : (List.range 24).all (fun q => Nat.ble 242 (24 * 10 + q) || fB8up (24 * 10 + q)) = true := by decide +kernel
theorem fB8u : ∀ u, u < 242 → chkU tS tRB 21 (fB8T u) (fB8c u) (fB8c (u + 1)) [] none u (fB8N u) (fB8X u) (fB8X (u + 1)) = true := fun u hu => chkU_F (rng_k (p := fB8up) (n := 11) (s := 24) (fun k hk => match k, hk with
  | 0, _ => fB8u_0
  | 1, _ => fB8u_1
  | 2, _ => fB8u_2
  | 3, _ => fB8u_3
  | 4, _ => fB8u_4
  | 5, _ => fB8u_5
  | 6, _ => fB8u_6
  | 7, _ => fB8u_7
  | 8, _ => fB8u_8
  | 9, _ => fB8u_9
  | 10, _ => fB8u_10
  | k + 11, h => absurd h (by omega)) (by decide) (by decide) u hu)
noncomputable def fB8wp (u : Nat) : Bool := chkWF tS tRB 21 (fB8T u) (fB8c u) [] (fB8N0 u) (fB8X u)
set_option maxRecDepth 100000 in
theorem fB8w_0 : (List.range 24).all (fun q => Nat.ble 242 (24 * 0 + q) || fB8wp (24 * 0 + q)) = true := by decide +kernel
set_option maxRecDepth 100000 in
theorem fB8w_1 : (List.range 24).all (fun q => Nat.ble 242 (24 * 1 + q) || fB8wp (24 * 1 + q)) = true := by decide +kernel
set_option maxRecDepth 100000 in
theorem fB8w_2 : (List.range 24).all (fun q => Nat.ble 242 (24 * 2 + q) || fB8wp (24 * 2 + q)) = true := by decide +kernel
set_option maxRecDepth 100000 in
theorem fB8w_3 : (List.range 24).all (fun q => Nat.ble 242 (24 * 3 + q) || fB8wp (24 * 3 + q)) = true := by decide +kernel
set_option maxRecDepth 100000 in
theorem fB8w_4 : (List.range 24).all (fun q => Nat.ble 242 (24 * 4 + q) || fB8wp (24 * 4 + q)) = true := by decide +kernel
set_option maxRecDepth 100000 in
theorem fB8w_5 : (List.range 24).all (fun q => Nat.ble 242 (24 * 5 + q) || fB8wp (24 * 5 + q)) = true := by decide +kernel
set_option maxRecDepth 100000 in
theorem fB8w_6 : (List.range 24).all (fun q => Nat.ble 242 (24 * 6 + q) || fB8wp (24 * 6 + q)) = true := by decide +kernel
set_option maxRecDepth 100000 in
theorem fB8w_7 : (List.range 24).all (fun q => Nat.ble 242 (24 * 7 + q) || fB8wp (24 * 7 + q)) = true := by decide +kernel
set_option maxRecDepth 100000 in
theorem fB8w_8 : (List.range 24).all (fun q => Nat.ble 242 (24 * 8 + q) || fB8wp (24 * 8 + q)) = true := by decide +kernel
set_option maxRecDepth 100000 in
theorem fB8w_9 : (List.range 24).all (fun q => Nat.ble 242 (24 * 9 + q) || fB8wp (24 * 9 + q)) = true := by decide +kernel
set_option maxRecDepth 100000 in
theorem fB8w_10 : (List.range 24).all (fun q => Nat.ble 242 (24 * 10 + q) || fB8wp (24 * 10 + q)) = true := by decide +kernel
theorem fB8w : ∀ u, u < 242 → chkW tS tRB 21 (fB8T u) (fB8c u) [] (fB8N0 u) (fB8X u) = true := fun u hu => chkW_F (rng_k (p := fB8wp) (n := 11) (s := 24) (fun k hk => match k, hk with
  | 0, _ => fB8w_0
  | 1, _ => fB8w_1
  | 2, _ => fB8w_2
  | 3, _ => fB8w_3
  | 4, _ => fB8w_4
  | 5, _ => fB8w_5
  | 6, _ => fB8w_6
  | 7, _ => fB8w_7
  | 8, _ => fB8w_8
  | 9, _ => fB8w_9
  | 10, _ => fB8w_10
  | k + 11, h => absurd h (by omega)) (by decide) (by decide) u hu)
def fB9T (u : Nat) : List aCt := [fB16c (u + 1), fB14c (u + 0), fB16c (u + 0), fB0c (u + 0)]
def fB9N0 (u : Nat) : List aNd := []
def fB9X (u : Nat) : List aNd := [(18, [(0, aR [314]), (1, aIt), (2, aIt), (3, aI 0 1)], [(314, 10, Int.ofNat u, 241)], 0, [])]
def fB9N (u : Nat) : List aNd := [(51, [(0, aR [314]), (1, aIt), (2, aIt), (3, aI 0 1), (4, aI 0 1)], [(314, 10, Int.ofNat (u + 1), 241)], 2, [])]
noncomputable def fB9up (u : Nat) : Bool := chkUF tS tRB 25 (fB9T u) (fB9c u) (fB9c (u + 1)) [] none u (fB9N u) (fB9X u) (fB9X (u + 1))
set_option maxRecDepth 100000 in
theorem fB9u_0 : (List.range 24).all (fun q => Nat.ble 242 (24 * 0 + q) || fB9up (24 * 0 + q)) = true := by decide +kernel
set_option maxRecDepth 100000 in
theorem fB9u_1 : (List.range 24).all (fun q => Nat.ble 242 (24 * 1 + q) || fB9up (24 * 1 + q)) = true := by decide +kernel
set_option maxRecDepth 100000 in
theorem fB9u_2 : (List.range 24).all (fun q => Nat.ble 242 (24 * 2 + q) || fB9up (24 * 2 + q)) = true := by decide +kernel
set_option maxRecDepth 100000 in
theorem fB9u_3 : (List.range 24).all (fun q => Nat.ble 242 (24 * 3 + q) || fB9up (24 * 3 + q)) = true := by decide +kernel
set_option maxRecDepth 100000 in
theorem fB9u_4 : (List.range 24).all (fun q => Nat.ble 242 (24 * 4 + q) || fB9up (24 * 4 + q)) = true := by decide +kernel
set_option maxRecDepth 100000 in
theorem fB9u_5 : (List.range 24).all (fun q => Nat.ble 242 (24 * 5 + q) || fB9up (24 * 5 + q)) = true := by decide +kernel
set_option maxRecDepth 100000 in
theorem fB9u_6 : (List.range 24).all (fun q => Nat.ble 242 (24 * 6 + q) || fB9up (24 * 6 + q)) = true := by decide +kernel
set_option maxRecDepth 100000 in
theorem fB9u_7 : (List.range 24).all (fun q => Nat.ble 242 (24 * 7 + q) || fB9up (24 * 7 + q)) = true := by decide +kernel
set_option maxRecDepth 100000 in
theorem fB9u_8 : (List.range 24).all (fun q => Nat.ble 242 (24 * 8 + q) || fB9up (24 * 8 + q)) = true := by decide +kernel
set_option maxRecDepth 100000 in
theorem fB9u_9 : (List.range 24).all (fun q => Nat.ble 242 (24 * 9 + q) || fB9up (24 * 9 + q)) = true := by decide +kernel
set_option maxRecDepth 100000 in
theorem fB9u_10 : (List.range 24).all (fun q => Nat.ble 242 (24 * 10 + q) || fB9up (24 * 10 + q)) = true := by decide +kernel
theorem fB9u : ∀ u, u < 242 → chkU tS tRB 25 (fB9T u) (fB9c u) (fB9c (u + 1)) [] none u (fB9N u) (fB9X u) (fB9X (u + 1)) = true := fun u hu => chkU_F (rng_k (p := fB9up) (n := 11) (s := 24) (fun k hk => match k, hk with
  | 0, _ => fB9u_0
  | 1, _ => fB9u_1
  | 2, _ => fB9u_2
  | 3, _ => fB9u_3
  | 4, _ => fB9u_4
  | 5, _ => fB9u_5
  | 6, _ => fB9u_6
  | 7, _ => fB9u_7
  | 8, _ => fB9u_8
  | 9, _ => fB9u_9
  | 10, _ => fB9u_10
  | k + 11, h => absurd h (by omega)) (by decide) (by decide) u hu)
noncomputable def fB9wp (u : Nat) : Bool := chkWF tS tRB 25 (fB9T u) (fB9c u) [] (fB9N0 u) (fB9X u)
set_option maxRecDepth 100000 in
theorem fB9w_0 : (List.range 24).all (fun q => Nat.ble 242 (24 * 0 + q) || fB9wp (24 * 0 + q)) = true := by decide +kernel
set_option maxRecDepth 100000 in
theorem fB9w_1 : (List.range 24).all (fun q => Nat.ble 242 (24 * 1 + q) || fB9wp (24 * 1 + q)) = true := by decide +kernel
set_option maxRecDepth 100000 in
theorem fB9w_2 : (List.range 24).all (fun q => Nat.ble 242 (24 * 2 + q) || fB9wp (24 * 2 + q)) = true := by decide +kernel
set_option maxRecDepth 100000 in
theorem fB9w_3 : (List.range 24).all (fun q => Nat.ble 242 (24 * 3 + q) || fB9wp (24 * 3 + q)) = true := by decide +kernel
set_option maxRecDepth 100000 in
theorem fB9w_4 : (List.range 24).all (fun q => Nat.ble 242 (24 * 4 + q) || fB9wp (24 * 4 + q)) = true := by decide +kernel
set_option maxRecDepth 100000 in
theorem fB9w_5 : (List.range 24).all (fun q => Nat.ble 242 (24 * 5 + q) || fB9wp (24 * 5 + q)) = true := by decide +kernel
set_option maxRecDepth 100000 in
theorem fB9w_6 : (List.range 24).all (fun q => Nat.ble 242 (24 * 6 + q) || fB9wp (24 * 6 + q)) = true := by decide +kernel
set_option maxRecDepth 100000 in
theorem fB9w_7 : (List.range 24).all (fun q => Nat.ble 242 (24 * 7 + q) || fB9wp (24 * 7 + q)) = true := by decide +kernel
set_option maxRecDepth 100000 in
theorem fB9w_8 : (List.range 24).all (fun q => Nat.ble 242 (24 * 8 + q) || fB9wp (24 * 8 + q)) = true := by decide +kernel
set_option maxRecDepth 100000 in
theorem fB9w_9 : (List.range 24).all (fun q => Nat.ble 242 (24 * 9 + q) || fB9wp (24 * 9 + q)) = true := by decide +kernel
set_option maxRecDepth 100000 in
theorem fB9w_10 : (List.range 24).all (fun q => Nat.ble 242 (24 * 10 + q) || fB9wp (24 * 10 + q)) = true := by decide +kernel
theorem fB9w : ∀ u, u < 242 → chkW tS tRB 25 (fB9T u) (fB9c u) [] (fB9N0 u) (fB9X u) = true := fun u hu => chkW_F (rng_k (p := fB9wp) (n := 11) (s := 24) (fun k hk => match k, hk with
  | 0, _ => fB9w_0
  | 1, _ => fB9w_1
  | 2, _ => fB9w_2
  | 3, _ => fB9w_3
  | 4, _ => fB9w_4
  | 5, _ => fB9w_5
  | 6, _ => fB9w_6
  | 7, _ => fB9w_7
  | 8, _ => fB9w_8
  | 9, _ => fB9w_9
  | 10, _ => fB9w_10
  | k + 11, h => absurd h (by omega)) (by decide) (by decide) u hu)
def fB13T (u : Nat) : List aCt := [fB10c (u + 4), fB1c (u + 4), fB10c (u + 3), fB10c (u + 2), fB6c (u + 1), fB12c (u + 1), fB10c (u + 1), fB0c (u + 0), fB10c (u + 0), fB1c (u + 0), fB11c (u + 0), oB16c, oB17c]
def fB13N0 (u : Nat) : List aNd := [(90, [(0, aR [314]), (1, aI (-1) 255), (2, aI 0 0), (3, aI 0 0)], [(314, 10, Int.ofNat u, 241)], 5, []),
  (90, [(0, aR [314]), (1, aI (-1) 255), (2, aI (-176) 79), (3, aI 1 1)], [(314, 10, Int.ofNat (u + 1), 240), (314, 11, (-1), (-1))], 4, []),
  (90, [(0, aR [314]), (1, aI (-1) 255), (2, aI (-1936) 869), (3, aI 2 2)], [(314, 10, Int.ofNat (u + 2), 240), (314, 11, (-1), (-1))], 3, []),
  (90, [(0, aR [314]), (1, aI (-1) 255), (2, aI (-19536) 8769), (3, aI 3 3)], [(314, 10, Int.ofNat (u + 3), 240), (314, 11, (-1), (-1))], 2, []),
  (90, [(0, aR [314]), (1, aI (-1) 255), (2, aI (-195536) 87769), (3, aI 4 4)], [(314, 10, Int.ofNat (u + 4), 240), (314, 11, (-1), (-1))], 1, [])]
noncomputable def fB13wp (u : Nat) : Bool := chkWF tS tRB 41 (fB13T u) (fB13c u) [(90, 3)] (fB13N0 u) []
set_option maxRecDepth 100000 in
theorem fB13w_0 : (List.range 24).all (fun q => Nat.ble 242 (24 * 0 + q) || fB13wp (24 * 0 + q)) = true := by decide +kernel
set_option maxRecDepth 100000 in
theorem fB13w_1 : (List.range 24).all (fun q => Nat.ble 242 (24 * 1 + q) || fB13wp (24 * 1 + q)) = true := by decide +kernel
set_option maxRecDepth 100000 in
theorem fB13w_2 : (List.range 24).all (fun q => Nat.ble 242 (24 * 2 + q) || fB13wp (24 * 2 + q)) = true := by decide +kernel
set_option maxRecDepth 100000 in
theorem fB13w_3 : (List.range 24).all (fun q => Nat.ble 242 (24 * 3 + q) || fB13wp (24 * 3 + q)) = true := by decide +kernel
set_option maxRecDepth 100000 in
theorem fB13w_4 : (List.range 24).all (fun q => Nat.ble 242 (24 * 4 + q) || fB13wp (24 * 4 + q)) = true := by decide +kernel
set_option maxRecDepth 100000 in
theorem fB13w_5 : (List.range 24).all (fun q => Nat.ble 242 (24 * 5 + q) || fB13wp (24 * 5 + q)) = true := by decide +kernel
set_option maxRecDepth 100000 in
theorem fB13w_6 : (List.range 24).all (fun q => Nat.ble 242 (24 * 6 + q) || fB13wp (24 * 6 + q)) = true := by decide +kernel
set_option maxRecDepth 100000 in
theorem fB13w_7 : (List.range 24).all (fun q => Nat.ble 242 (24 * 7 + q) || fB13wp (24 * 7 + q)) = true := by decide +kernel
set_option maxRecDepth 100000 in
theorem fB13w_8 : (List.range 24).all (fun q => Nat.ble 242 (24 * 8 + q) || fB13wp (24 * 8 + q)) = true := by decide +kernel
set_option maxRecDepth 100000 in
theorem fB13w_9 : (List.range 24).all (fun q => Nat.ble 242 (24 * 9 + q) || fB13wp (24 * 9 + q)) = true := by decide +kernel
set_option maxRecDepth 100000 in
theorem fB13w_10 : (List.range 24).all (fun q => Nat.ble 242 (24 * 10 + q) || fB13wp (24 * 10 + q)) = true := by decide +kernel
theorem fB13w : ∀ u, u < 242 → chkW tS tRB 41 (fB13T u) (fB13c u) [(90, 3)] (fB13N0 u) [] = true := fun u hu => chkW_F (rng_k (p := fB13wp) (n := 11) (s := 24) (fun k hk => match k, hk with
  | 0, _ => fB13w_0
  | 1, _ => fB13w_1
  | 2, _ => fB13w_2
  | 3, _ => fB13w_3
  | 4, _ => fB13w_4
  | 5, _ => fB13w_5
  | 6, _ => fB13w_6
  | 7, _ => fB13w_7
  | 8, _ => fB13w_8
  | 9, _ => fB13w_9
  | 10, _ => fB13w_10
  | k + 11, h => absurd h (by omega)) (by decide) (by decide) u hu)
def fB14T (u : Nat) : List aCt := [fB6c (u + 1), fB6c (u + 0), fB0c (u + 0), fB1c (u + 0), oB3c, oB4c]
def fB14N0 (u : Nat) : List aNd := [(13, [(0, aR [314]), (1, aIt), (2, aIt), (3, aIt)], [(314, 10, Int.ofNat u, 241)], 2, []),
  (58, [(0, aR [314]), (1, aIt), (2, aIt), (3, aIt), (4, aI 60 62), (5, aIt)], [(314, 10, Int.ofNat (u + 1), 241)], 1, [])]
noncomputable def fB14wp (u : Nat) : Bool := chkWF tS tRB 27 (fB14T u) (fB14c u) [] (fB14N0 u) []
set_option maxRecDepth 100000 in
theorem fB14w_0 : (List.range 24).all (fun q => Nat.ble 242 (24 * 0 + q) || fB14wp (24 * 0 + q)) = true := by decide +kernel
set_option maxRecDepth 100000 in
theorem fB14w_1 : (List.range 24).all (fun q => Nat.ble 242 (24 * 1 + q) || fB14wp (24 * 1 + q)) = true := by decide +kernel
set_option maxRecDepth 100000 in
theorem fB14w_2 : (List.range 24).all (fun q => Nat.ble 242 (24 * 2 + q) || fB14wp (24 * 2 + q)) = true := by decide +kernel
set_option maxRecDepth 100000 in
theorem fB14w_3 : (List.range 24).all (fun q => Nat.ble 242 (24 * 3 + q) || fB14wp (24 * 3 + q)) = true := by decide +kernel
set_option maxRecDepth 100000 in
theorem fB14w_4 : (List.range 24).all (fun q => Nat.ble 242 (24 * 4 + q) || fB14wp (24 * 4 + q)) = true := by decide +kernel
set_option maxRecDepth 100000 in
theorem fB14w_5 : (List.range 24).all (fun q => Nat.ble 242 (24 * 5 + q) || fB14wp (24 * 5 + q)) = true := by decide +kernel
set_option maxRecDepth 100000 in
theorem fB14w_6 : (List.range 24).all (fun q => Nat.ble 242 (24 * 6 + q) || fB14wp (24 * 6 + q)) = true := by decide +kernel
set_option maxRecDepth 100000 in
theorem fB14w_7 : (List.range 24).all (fun q => Nat.ble 242 (24 * 7 + q) || fB14wp (24 * 7 + q)) = true := by decide +kernel
set_option maxRecDepth 100000 in
theorem fB14w_8 : (List.range 24).all (fun q => Nat.ble 242 (24 * 8 + q) || fB14wp (24 * 8 + q)) = true := by decide +kernel
set_option maxRecDepth 100000 in
theorem fB14w_9 : (List.range 24).all (fun q => Nat.ble 242 (24 * 9 + q) || fB14wp (24 * 9 + q)) = true := by decide +kernel
set_option maxRecDepth 100000 in
theorem fB14w_10 : (List.range 24).all (fun q => Nat.ble 242 (24 * 10 + q) || fB14wp (24 * 10 + q)) = true := by decide +kernel
theorem fB14w : ∀ u, u < 242 → chkW tS tRB 27 (fB14T u) (fB14c u) [] (fB14N0 u) [] = true := fun u hu => chkW_F (rng_k (p := fB14wp) (n := 11) (s := 24) (fun k hk => match k, hk with
  | 0, _ => fB14w_0
  | 1, _ => fB14w_1
  | 2, _ => fB14w_2
  | 3, _ => fB14w_3
  | 4, _ => fB14w_4
  | 5, _ => fB14w_5
  | 6, _ => fB14w_6
  | 7, _ => fB14w_7
  | 8, _ => fB14w_8
  | 9, _ => fB14w_9
  | 10, _ => fB14w_10
  | k + 11, h => absurd h (by omega)) (by decide) (by decide) u hu)
def fB16T (u : Nat) : List aCt := [fB7c (u + 1), fB15c (u + 1), fB16c (u + 1), fB0c (u + 0), fB14c (u + 0), fB11c (u + 0)]
def fB16N0 (u : Nat) : List aNd := []
noncomputable def fB16wp (u : Nat) : Bool := chkWF tS tRB 36 (fB16T u) (fB16c u) [] (fB16N0 u) []
set_option maxRecDepth 100000 in
theorem fB16w_0 : (List.range 24).all (fun q => Nat.ble 242 (24 * 0 + q) || fB16wp (24 * 0 + q)) = true := by decide +kernel
set_option maxRecDepth 100000 in
theorem fB16w_1 : (List.range 24).all (fun q => Nat.ble 242 (24 * 1 + q) || fB16wp (24 * 1 + q)) = true := by decide +kernel
set_option maxRecDepth 100000 in
theorem fB16w_2 : (List.range 24).all (fun q => Nat.ble 242 (24 * 2 + q) || fB16wp (24 * 2 + q)) = true := by decide +kernel
set_option maxRecDepth 100000 in
theorem fB16w_3 : (List.range 24).all (fun q => Nat.ble 242 (24 * 3 + q) || fB16wp (24 * 3 + q)) = true := by decide +kernel
set_option maxRecDepth 100000 in
theorem fB16w_4 : (List.range 24).all (fun q => Nat.ble 242 (24 * 4 + q) || fB16wp (24 * 4 + q)) = true := by decide +kernel
set_option maxRecDepth 100000 in
theorem fB16w_5 : (List.range 24).all (fun q => Nat.ble 242 (24 * 5 + q) || fB16wp (24 * 5 + q)) = true := by decide +kernel
set_option maxRecDepth 100000 in
theorem fB16w_6 : (List.range 24).all (fun q => Nat.ble 242 (24 * 6 + q) || fB16wp (24 * 6 + q)) = true := by decide +kernel
set_option maxRecDepth 100000 in
theorem fB16w_7 : (List.range 24).all (fun q => Nat.ble 242 (24 * 7 + q) || fB16wp (24 * 7 + q)) = true := by decide +kernel
set_option maxRecDepth 100000 in
theorem fB16w_8 : (List.range 24).all (fun q => Nat.ble 242 (24 * 8 + q) || fB16wp (24 * 8 + q)) = true := by decide +kernel
set_option maxRecDepth 100000 in
theorem fB16w_9 : (List.range 24).all (fun q => Nat.ble 242 (24 * 9 + q) || fB16wp (24 * 9 + q)) = true := by decide +kernel
set_option maxRecDepth 100000 in
theorem fB16w_10 : (List.range 24).all (fun q => Nat.ble 242 (24 * 10 + q) || fB16wp (24 * 10 + q)) = true := by decide +kernel
theorem fB16w : ∀ u, u < 242 → chkW tS tRB 36 (fB16T u) (fB16c u) [] (fB16N0 u) [] = true := fun u hu => chkW_F (rng_k (p := fB16wp) (n := 11) (s := 24) (fun k hk => match k, hk with
  | 0, _ => fB16w_0
  | 1, _ => fB16w_1
  | 2, _ => fB16w_2
  | 3, _ => fB16w_3
  | 4, _ => fB16w_4
  | 5, _ => fB16w_5
  | 6, _ => fB16w_6
  | 7, _ => fB16w_7
  | 8, _ => fB16w_8
  | 9, _ => fB16w_9
  | 10, _ => fB16w_10
  | k + 11, h => absurd h (by omega)) (by decide) (by decide) u hu)
theorem fB13_s (n : Nat) (h_X12_sum : ∀ w, 242 ≤ w + (n) → vC tS tRB jM (3 * (n) + 12) (fB6c w)) : ∀ w, 242 ≤ w + (n + 1) → vC tS tRB jM (3 * (n + 1) + 10) (fB13c w) := by
  intro w hw
  by_cases h : w < 242
  · exact vUq (D := 3 * (n + 1) + 10) (famE (D := 3 * (n + 1) + 9) (Fu := fB13F) (Ou := fB13O) (jM_st (c := (0, [], [], [], [(314, 10, 13)])) (by decide)) fB13w h (fa_cons (vUq (fB10 (w + 4)) (by omega)) (fa_cons (vUq (fB1 (w + 4)) (by omega)) (fa_cons (vUq (fB10 (w + 3)) (by omega)) (fa_cons (vUq (fB10 (w + 2)) (by omega)) (fa_cons (vUq (h_X12_sum (w + 1) (by omega)) (by omega)) (fa_cons (vUq (fB12 (w + 1)) (by omega)) (fa_cons (vUq (fB10 (w + 1)) (by omega)) (fa_cons (vUq (fB0 (w + 0)) (by omega)) (fa_cons (vUq (fB10 (w + 0)) (by omega)) (fa_cons (vUq (fB1 (w + 0)) (by omega)) (fa_cons (vUq (fB11 (w + 0)) (by omega)) (fa_cons (vUq oB16 (by omega)) (fa_cons (vUq oB17 (by omega)) (fa_nil))))))))))))))) (by omega)
  · exact vC_vac (vacAt (by omega))
theorem fB8_s (n : Nat) (h_X12_atom : ∀ w, 242 ≤ w + (n + 1) → vC tS tRB jM (3 * (n + 1) + 10) (fB13c w)) : ∀ w, 242 ≤ w + (n + 1) → vC tS tRB jM (3 * (n + 1) + 11) (fB8c w) := by
  intro w hw
  by_cases h : w < 242
  · exact vUq (D := 3 * (n + 1) + 11) (famW (D := 3 * (n + 1) + 10) (Fu := fB8F) (Ou := fB8O) (jM_st (c := (0, [], [], [], [(314, 10, 13)])) (by decide)) fB8u (by decide +kernel) fB8w h (fa_cons (vUq (h_X12_atom (w + 1) (by omega)) (by omega)) (fa_cons (vUq (fB3 (w + 0)) (by omega)) (fa_cons (vUq (h_X12_atom (w + 0) (by omega)) (by omega)) (fa_cons (vUq (fB0 (w + 0)) (by omega)) (fa_cons (vUq oB8 (by omega)) (fa_nil)))))) (fun u _ _ => fa_cons (vUq (h_X12_atom (u + 1) (by omega)) (by omega)) (fa_cons (vUq (fB3 (u + 0)) (by omega)) (fa_cons (vUq (h_X12_atom (u + 0) (by omega)) (by omega)) (fa_cons (vUq (fB0 (u + 0)) (by omega)) (fa_cons (vUq oB8 (by omega)) (fa_nil))))))) (by omega)
  · exact vC_vac (vacAt (by omega))
theorem fB6_s (n : Nat) (h_X12_term : ∀ w, 242 ≤ w + (n + 1) → vC tS tRB jM (3 * (n + 1) + 11) (fB8c w)) : ∀ w, 242 ≤ w + (n + 1) → vC tS tRB jM (3 * (n + 1) + 12) (fB6c w) := by
  intro w hw
  by_cases h : w < 242
  · exact vUq (D := 3 * (n + 1) + 12) (famW (D := 3 * (n + 1) + 11) (Fu := fB6F) (Ou := fB6O) (jM_st (c := (0, [], [], [], [(314, 10, 13)])) (by decide)) fB6u (by decide +kernel) fB6w h (fa_cons (vUq (h_X12_term (w + 1) (by omega)) (by omega)) (fa_cons (vUq (fB3 (w + 0)) (by omega)) (fa_cons (vUq (h_X12_term (w + 0) (by omega)) (by omega)) (fa_cons (vUq (fB0 (w + 0)) (by omega)) (fa_cons (vUq oB8 (by omega)) (fa_nil)))))) (fun u _ _ => fa_cons (vUq (h_X12_term (u + 1) (by omega)) (by omega)) (fa_cons (vUq (fB3 (u + 0)) (by omega)) (fa_cons (vUq (h_X12_term (u + 0) (by omega)) (by omega)) (fa_cons (vUq (fB0 (u + 0)) (by omega)) (fa_cons (vUq oB8 (by omega)) (fa_nil))))))) (by omega)
  · exact vC_vac (vacAt (by omega))
theorem fB14_s (n : Nat) (h_X12_sum : ∀ w, 242 ≤ w + (n + 1) → vC tS tRB jM (3 * (n + 1) + 12) (fB6c w)) : ∀ w, 242 ≤ w + (n + 1) → vC tS tRB jM (3 * (n + 1) + 13) (fB14c w) := by
  intro w hw
  by_cases h : w < 242
  · exact vUq (D := 3 * (n + 1) + 13) (famE (D := 3 * (n + 1) + 12) (Fu := fB14F) (Ou := fB14O) (jM_st (c := (0, [], [], [], [(314, 10, 13)])) (by decide)) fB14w h (fa_cons (vUq (h_X12_sum (w + 1) (by omega)) (by omega)) (fa_cons (vUq (h_X12_sum (w + 0) (by omega)) (by omega)) (fa_cons (vUq (fB0 (w + 0)) (by omega)) (fa_cons (vUq (fB1 (w + 0)) (by omega)) (fa_cons (vUq oB3 (by omega)) (fa_cons (vUq oB4 (by omega)) (fa_nil)))))))) (by omega)
  · exact vC_vac (vacAt (by omega))
theorem fB16_s (n : Nat) (h_X12_condition : ∀ w, 242 ≤ w + (n) → vC tS tRB jM (3 * (n) + 16) (fB7c w)) (h_X12_unit : ∀ w, 242 ≤ w + (n) → vC tS tRB jM (3 * (n) + 14) (fB16c w)) (h_X12_compares : ∀ w, 242 ≤ w + (n + 1) → vC tS tRB jM (3 * (n + 1) + 13) (fB14c w)) : ∀ w, 242 ≤ w + (n + 1) → vC tS tRB jM (3 * (n + 1) + 14) (fB16c w) := by
  intro w hw
  by_cases h : w < 242
  · exact vUq (D := 3 * (n + 1) + 14) (famE (D := 3 * (n + 1) + 13) (Fu := fB16F) (Ou := fB16O) (jM_st (c := (0, [], [], [], [(314, 10, 13)])) (by decide)) fB16w h (fa_cons (vUq (h_X12_condition (w + 1) (by omega)) (by omega)) (fa_cons (vUq (fB15 (w + 1)) (by omega)) (fa_cons (vUq (h_X12_unit (w + 1) (by omega)) (by omega)) (fa_cons (vUq (fB0 (w + 0)) (by omega)) (fa_cons (vUq (h_X12_compares (w + 0) (by omega)) (by omega)) (fa_cons (vUq (fB11 (w + 0)) (by omega)) (fa_nil)))))))) (by omega)
  · exact vC_vac (vacAt (by omega))
theorem fB9_s (n : Nat) (h_X12_unit : ∀ w, 242 ≤ w + (n + 1) → vC tS tRB jM (3 * (n + 1) + 14) (fB16c w)) (h_X12_compares : ∀ w, 242 ≤ w + (n + 1) → vC tS tRB jM (3 * (n + 1) + 13) (fB14c w)) : ∀ w, 242 ≤ w + (n + 1) → vC tS tRB jM (3 * (n + 1) + 15) (fB9c w) := by
  intro w hw
  by_cases h : w < 242
  · exact vUq (D := 3 * (n + 1) + 15) (famW (D := 3 * (n + 1) + 14) (Fu := fB9F) (Ou := fB9O) (jM_st (c := (0, [], [], [], [(314, 10, 13)])) (by decide)) fB9u (by decide +kernel) fB9w h (fa_cons (vUq (h_X12_unit (w + 1) (by omega)) (by omega)) (fa_cons (vUq (h_X12_compares (w + 0) (by omega)) (by omega)) (fa_cons (vUq (h_X12_unit (w + 0) (by omega)) (by omega)) (fa_cons (vUq (fB0 (w + 0)) (by omega)) (fa_nil))))) (fun u _ _ => fa_cons (vUq (h_X12_unit (u + 1) (by omega)) (by omega)) (fa_cons (vUq (h_X12_compares (u + 0) (by omega)) (by omega)) (fa_cons (vUq (h_X12_unit (u + 0) (by omega)) (by omega)) (fa_cons (vUq (fB0 (u + 0)) (by omega)) (fa_nil)))))) (by omega)
  · exact vC_vac (vacAt (by omega))
theorem fB7_s (n : Nat) (h_X12_part : ∀ w, 242 ≤ w + (n + 1) → vC tS tRB jM (3 * (n + 1) + 15) (fB9c w)) : ∀ w, 242 ≤ w + (n + 1) → vC tS tRB jM (3 * (n + 1) + 16) (fB7c w) := by
  intro w hw
  by_cases h : w < 242
  · exact vUq (D := 3 * (n + 1) + 16) (famW (D := 3 * (n + 1) + 15) (Fu := fB7F) (Ou := fB7O) (jM_st (c := (0, [], [], [], [(314, 10, 13)])) (by decide)) fB7u (by decide +kernel) fB7w h (fa_cons (vUq (h_X12_part (w + 1) (by omega)) (by omega)) (fa_cons (vUq (h_X12_part (w + 0) (by omega)) (by omega)) (fa_cons (vUq (fB0 (w + 0)) (by omega)) (fa_nil)))) (fun u _ _ => fa_cons (vUq (h_X12_part (u + 1) (by omega)) (by omega)) (fa_cons (vUq (h_X12_part (u + 0) (by omega)) (by omega)) (fa_cons (vUq (fB0 (u + 0)) (by omega)) (fa_nil))))) (by omega)
  · exact vC_vac (vacAt (by omega))
theorem fB_all (n : Nat) : (∀ w, 242 ≤ w + (n) → vC tS tRB jM (3 * (n) + 10) (fB13c w)) ∧ (∀ w, 242 ≤ w + (n) → vC tS tRB jM (3 * (n) + 11) (fB8c w)) ∧ (∀ w, 242 ≤ w + (n) → vC tS tRB jM (3 * (n) + 12) (fB6c w)) ∧ (∀ w, 242 ≤ w + (n) → vC tS tRB jM (3 * (n) + 13) (fB14c w)) ∧ (∀ w, 242 ≤ w + (n) → vC tS tRB jM (3 * (n) + 14) (fB16c w)) ∧ (∀ w, 242 ≤ w + (n) → vC tS tRB jM (3 * (n) + 15) (fB9c w)) ∧ (∀ w, 242 ≤ w + (n) → vC tS tRB jM (3 * (n) + 16) (fB7c w)) := by
  induction n with
  | zero => exact ⟨fun w hw => vC_vac (vacAt (by omega)), fun w hw => vC_vac (vacAt (by omega)), fun w hw => vC_vac (vacAt (by omega)), fun w hw => vC_vac (vacAt (by omega)), fun w hw => vC_vac (vacAt (by omega)), fun w hw => vC_vac (vacAt (by omega)), fun w hw => vC_vac (vacAt (by omega))⟩
  | succ n ih =>
    obtain ⟨h0, h1, h2, h3, h4, h5, h6⟩ := ih
    have k_h0 := fB13_s n h2
    have k_h1 := fB8_s n k_h0
    have k_h2 := fB6_s n k_h1
    have k_h3 := fB14_s n k_h2
    have k_h4 := fB16_s n h6 h4 k_h3
    have k_h5 := fB9_s n k_h4 k_h3
    have k_h6 := fB7_s n k_h5
    exact ⟨k_h0, k_h1, k_h2, k_h3, k_h4, k_h5, k_h6⟩
theorem fB13 (w : Nat) : vC tS tRB jM 800 (fB13c w) := vUq ((fB_all 242).1 w (by omega)) (by decide)
theorem fB8 (w : Nat) : vC tS tRB jM 800 (fB8c w) := vUq ((fB_all 242).2.1 w (by omega)) (by decide)
theorem fB6 (w : Nat) : vC tS tRB jM 800 (fB6c w) := vUq ((fB_all 242).2.2.1 w (by omega)) (by decide)
theorem fB14 (w : Nat) : vC tS tRB jM 800 (fB14c w) := vUq ((fB_all 242).2.2.2.1 w (by omega)) (by decide)
theorem fB16 (w : Nat) : vC tS tRB jM 800 (fB16c w) := vUq ((fB_all 242).2.2.2.2.1 w (by omega)) (by decide)
theorem fB9 (w : Nat) : vC tS tRB jM 800 (fB9c w) := vUq ((fB_all 242).2.2.2.2.2.1 w (by omega)) (by decide)
theorem fB7 (w : Nat) : vC tS tRB jM 800 (fB7c w) := vUq ((fB_all 242).2.2.2.2.2.2 w (by omega)) (by decide)
/-- X12_clause, text B -/
def fB5F (u : Nat) : aFs := [(314, 10, Int.ofNat u, 241)]
def fB5O (u : Nat) : List (Option aV × List (Int × Int) × aFs) := [(none, [(lLo, lHi)], [(314, 10, Int.ofNat u, 241)])]
def fB5c (u : Nat) : aCt := (176, [aR [314]], fB5F u, fB5O u, [(314, 10, 13), (314, 14, 15), (314, 17, 18)])
def fB5T (u : Nat) : List aCt := [fB6c (u + 3), fB3c (u + 2), fB6c (u + 2), fB0c (u + 2), fB7c (u + 2), fB4c (u + 2), fB2c (u + 1), fB0c (u + 0), fB1c (u + 0), oB2c, oB3c, oB4c, oB5c]
def fB5N0 (u : Nat) : List aNd := [(134, [(0, aR [314]), (1, aI 121 121), (2, aI 0 1), (3, aIt), (4, aI (-1) 255)], [(314, 10, Int.ofNat (u + 2), 241)], 1, [])]
noncomputable def fB5wp (u : Nat) : Bool := chkWF tS tRB 61 (fB5T u) (fB5c u) [] (fB5N0 u) []
set_option maxRecDepth 100000 in
theorem fB5w_0 : (List.range 24).all (fun q => Nat.ble 242 (24 * 0 + q) || fB5wp (24 * 0 + q)) = true := by decide +kernel
set_option maxRecDepth 100000 in
theorem fB5w_1 : (List.range 24).all (fun q => Nat.ble 242 (24 * 1 + q) || fB5wp (24 * 1 + q)) = true := by decide +kernel
set_option maxRecDepth 100000 in
theorem fB5w_2 : (List.range 24).all (fun q => Nat.ble 242 (24 * 2 + q) || fB5wp (24 * 2 + q)) = true := by decide +kernel
set_option maxRecDepth 100000 in
theorem fB5w_3 : (List.range 24).all (fun q => Nat.ble 242 (24 * 3 + q) || fB5wp (24 * 3 + q)) = true := by decide +kernel
set_option maxRecDepth 100000 in
theorem fB5w_4 : (List.range 24).all (fun q => Nat.ble 242 (24 * 4 + q) || fB5wp (24 * 4 + q)) = true := by decide +kernel
set_option maxRecDepth 100000 in
theorem fB5w_5 : (List.range 24).all (fun q => Nat.ble 242 (24 * 5 + q) || fB5wp (24 * 5 + q)) = true := by decide +kernel
set_option maxRecDepth 100000 in
theorem fB5w_6 : (List.range 24).all (fun q => Nat.ble 242 (24 * 6 + q) || fB5wp (24 * 6 + q)) = true := by decide +kernel
set_option maxRecDepth 100000 in
theorem fB5w_7 : (List.range 24).all (fun q => Nat.ble 242 (24 * 7 + q) || fB5wp (24 * 7 + q)) = true := by decide +kernel
set_option maxRecDepth 100000 in
theorem fB5w_8 : (List.range 24).all (fun q => Nat.ble 242 (24 * 8 + q) || fB5wp (24 * 8 + q)) = true := by decide +kernel
set_option maxRecDepth 100000 in
theorem fB5w_9 : (List.range 24).all (fun q => Nat.ble 242 (24 * 9 + q) || fB5wp (24 * 9 + q)) = true := by decide +kernel
set_option maxRecDepth 100000 in
theorem fB5w_10 : (List.range 24).all (fun q => Nat.ble 242 (24 * 10 + q) || fB5wp (24 * 10 + q)) = true := by decide +kernel
theorem fB5w : ∀ u, u < 242 → chkW tS tRB 61 (fB5T u) (fB5c u) [] (fB5N0 u) [] = true := fun u hu => chkW_F (rng_k (p := fB5wp) (n := 11) (s := 24) (fun k hk => match k, hk with
  | 0, _ => fB5w_0
  | 1, _ => fB5w_1
  | 2, _ => fB5w_2
  | 3, _ => fB5w_3
  | 4, _ => fB5w_4
  | 5, _ => fB5w_5
  | 6, _ => fB5w_6
  | 7, _ => fB5w_7
  | 8, _ => fB5w_8
  | 9, _ => fB5w_9
  | 10, _ => fB5w_10
  | k + 11, h => absurd h (by omega)) (by decide) (by decide) u hu)
theorem fB5 (w : Nat) : vC tS tRB jM 801 (fB5c w) := by
  by_cases h : w < 242
  · exact famE (Fu := fB5F) (Ou := fB5O) (jM_st (c := (0, [], [], [], [(314, 10, 13), (314, 14, 15), (314, 17, 18)])) (by decide)) fB5w h (fa_cons (vUq (fB6 (w + 3)) (by decide)) (fa_cons (vUq (fB3 (w + 2)) (by decide)) (fa_cons (vUq (fB6 (w + 2)) (by decide)) (fa_cons (vUq (fB0 (w + 2)) (by decide)) (fa_cons (vUq (fB7 (w + 2)) (by decide)) (fa_cons (vUq (fB4 (w + 2)) (by decide)) (fa_cons (vUq (fB2 (w + 1)) (by decide)) (fa_cons (vUq (fB0 (w + 0)) (by decide)) (fa_cons (vUq (fB1 (w + 0)) (by decide)) (fa_cons (vUq oB2 (by decide)) (fa_cons (vUq oB3 (by decide)) (fa_cons (vUq oB4 (by decide)) (fa_cons (vUq oB5 (by decide)) (fa_nil))))))))))))))
  · exact vC_vac (vacAt (by omega))
