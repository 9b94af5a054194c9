/-! L2: the parser of the reference, nonA -/
/-- X12_look, text A -/
def fA0F (u : Nat) : aFs := [(314, 10, Int.ofNat u, 241), (314, 8, 0, 0)]
def fA0O (u : Nat) : List (Option aV × List (Int × Int) × aFs) := [(some (aI (-1) (-1)), [(lLo, lHi)], [(314, 10, Int.ofNat u, 241)]), (some (aI 0 255), [(lLo, lHi)], [(314, 10, Int.ofNat u, 239)])]
def fA0c (u : Nat) : aCt := (162, [aR [314]], fA0F u, fA0O u, [(314, 10, 11)])
def fA0T (u : Nat) : List aCt := []
def fA0N0 (u : Nat) : List aNd := []
def fA0X (u : Nat) : List aNd := [(0, [(0, aR [314])], [(314, 10, Int.ofNat u, 241), (314, 8, 0, 0)], 0, [])]
def fA0N (u : Nat) : List aNd := []
noncomputable def fA0up (u : Nat) : Bool := chkUF tS tRA 39 (fA0T u) (fA0c u) (fA0c (u + 1)) [] none u (fA0N u) (fA0X u) (fA0X (u + 1))
set_option maxRecDepth 100000 in
theorem fA0u_0 : (List.range 61).all (fun q => Nat.ble 242 (61 * 0 + q) || fA0up (61 * 0 + q)) = true := by decide +kernel
set_option maxRecDepth 100000 in
theorem fA0u_1 : (List.range 61).all (fun q => Nat.ble 242 (61 * 1 + q) || fA0up (61 * 1 + q)) = true := by decide +kernel
set_option maxRecDepth 100000 in
theorem fA0u_2 : (List.range 61).all (fun q => Nat.ble 242 (61 * 2 + q) || fA0up (61 * 2 + q)) = true := by decide +kernel
set_option maxRecDepth 100000 in
theorem fA0u_3 : (List.range 61).all (fun q => Nat.ble 242 (61 * 3 + q) || fA0up (61 * 3 + q)) = true := by decide +kernel
theorem fA0u : ∀ u, u < 242 → chkU tS tRA 39 (fA0T u) (fA0c u) (fA0c (u + 1)) [] none u (fA0N u) (fA0X u) (fA0X (u + 1)) = true := fun u hu => chkU_F (rng_k (p := fA0up) (n := 4) (s := 61) (fun k hk => match k, hk with
  | 0, _ => fA0u_0
  | 1, _ => fA0u_1
  | 2, _ => fA0u_2
  | 3, _ => fA0u_3
  | k + 4, h => absurd h (by omega)) (by decide) (by decide) u hu)
noncomputable def fA0wp (u : Nat) : Bool := chkWF tS tRA 39 (fA0T u) (fA0c u) [] (fA0N0 u) (fA0X u)
set_option maxRecDepth 100000 in
theorem fA0w_0 : (List.range 61).all (fun q => Nat.ble 242 (61 * 0 + q) || fA0wp (61 * 0 + q)) = true := by decide +kernel
set_option maxRecDepth 100000 in
theorem fA0w_1 : (List.range 61).all (fun q => Nat.ble 242 (61 * 1 + q) || fA0wp (61 * 1 + q)) = true := by decide +kernel
set_option maxRecDepth 100000 in
theorem fA0w_2 : (List.range 61).all (fun q => Nat.ble 242 (61 * 2 + q) || fA0wp (61 * 2 + q)) = true := by decide +kernel
set_option maxRecDepth 100000 in
theorem fA0w_3 : (List.range 61).all (fun q => Nat.ble 242 (61 * 3 + q) || fA0wp (61 * 3 + q)) = true := by decide +kernel
theorem fA0w : ∀ u, u < 242 → chkW tS tRA 39 (fA0T u) (fA0c u) [] (fA0N0 u) (fA0X u) = true := fun u hu => chkW_F (rng_k (p := fA0wp) (n := 4) (s := 61) (fun k hk => match k, hk with
  | 0, _ => fA0w_0
  | 1, _ => fA0w_1
  | 2, _ => fA0w_2
  | 3, _ => fA0w_3
  | k + 4, h => absurd h (by omega)) (by decide) (by decide) u hu)
theorem fA0 (w : Nat) : vC tS tRA jM 1 (fA0c w) := by
  by_cases h : w < 242
  · exact famW (Fu := fA0F) (Ou := fA0O) (jM_st (c := (0, [], [], [], [(314, 10, 11)])) (by decide)) fA0u (by decide +kernel) fA0w h (fa_nil) (fun u _ _ => fa_nil)
  · exact vC_vac (vacAt (by omega))
/-- X12_fails, text A -/
def fA1F (u : Nat) : aFs := [(314, 10, Int.ofNat u, 241), (314, 8, 0, 0)]
def fA1O (u : Nat) : List (Option aV × List (Int × Int) × aFs) := [(some (aI 0 0), [(lLo, lHi)], [(314, 10, Int.ofNat u, 241)])]
def fA1c (u : Nat) : aCt := (163, [aR [314]], fA1F u, fA1O u, [(314, 11, 12)])
def fA1T (u : Nat) : List aCt := []
def fA1N0 (u : Nat) : List aNd := []
noncomputable def fA1wp (u : Nat) : Bool := chkWF tS tRA 17 (fA1T u) (fA1c u) [] (fA1N0 u) []
set_option maxRecDepth 100000 in
theorem fA1w_0 : (List.range 61).all (fun q => Nat.ble 242 (61 * 0 + q) || fA1wp (61 * 0 + q)) = true := by decide +kernel
set_option maxRecDepth 100000 in
theorem fA1w_1 : (List.range 61).all (fun q => Nat.ble 242 (61 * 1 + q) || fA1wp (61 * 1 + q)) = true := by decide +kernel
set_option maxRecDepth 100000 in
theorem fA1w_2 : (List.range 61).all (fun q => Nat.ble 242 (61 * 2 + q) || fA1wp (61 * 2 + q)) = true := by decide +kernel
set_option maxRecDepth 100000 in
theorem fA1w_3 : (List.range 61).all (fun q => Nat.ble 242 (61 * 3 + q) || fA1wp (61 * 3 + q)) = true := by decide +kernel
theorem fA1w : ∀ u, u < 242 → chkW tS tRA 17 (fA1T u) (fA1c u) [] (fA1N0 u) [] = true := fun u hu => chkW_F (rng_k (p := fA1wp) (n := 4) (s := 61) (fun k hk => match k, hk with
  | 0, _ => fA1w_0
  | 1, _ => fA1w_1
  | 2, _ => fA1w_2
  | 3, _ => fA1w_3
  | k + 4, h => absurd h (by omega)) (by decide) (by decide) u hu)
theorem fA1 (w : Nat) : vC tS tRA jM 1 (fA1c w) := by
  by_cases h : w < 242
  · exact famE (Fu := fA1F) (Ou := fA1O) (jM_st (c := (0, [], [], [], [(314, 11, 12)])) (by decide)) fA1w h (fa_nil)
  · exact vC_vac (vacAt (by omega))
/-- X12_takes, text A -/
def fA2F (u : Nat) : aFs := [(314, 10, Int.ofNat u, 241), (314, 8, 0, 0)]
def fA2O (u : Nat) : List (Option aV × List (Int × Int) × aFs) := [(some (aI 0 0), [(lLo, lHi), (58, 58)], [(314, 10, Int.ofNat u, 241)]), (some (aI 1 1), [(lLo, lHi), (58, 58)], [(314, 10, Int.ofNat (u + 1), 240)])]
def fA2c (u : Nat) : aCt := (165, [aR [314], aI 58 58], fA2F u, fA2O u, [(314, 10, 12)])
def fA2T (u : Nat) : List aCt := [fA1c (u + 0), fA0c (u + 0)]
def fA2N0 (u : Nat) : List aNd := []
noncomputable def fA2wp (u : Nat) : Bool := chkWF tS tRA 23 (fA2T u) (fA2c u) [] (fA2N0 u) []
set_option maxRecDepth 100000 in
theorem fA2w_0 : (List.range 61).all (fun q => Nat.ble 242 (61 * 0 + q) || fA2wp (61 * 0 + q)) = true := by decide +kernel
set_option maxRecDepth 100000 in
theorem fA2w_1 : (List.range 61).all (fun q => Nat.ble 242 (61 * 1 + q) || fA2wp (61 * 1 + q)) = true := by decide +kernel
set_option maxRecDepth 100000 in
theorem fA2w_2 : (List.range 61).all (fun q => Nat.ble 242 (61 * 2 + q) || fA2wp (61 * 2 + q)) = true := by decide +kernel
set_option maxRecDepth 100000 in
theorem fA2w_3 : (List.range 61).all (fun q => Nat.ble 242 (61 * 3 + q) || fA2wp (61 * 3 + q)) = true := by decide +kernel
theorem fA2w : ∀ u, u < 242 → chkW tS tRA 23 (fA2T u) (fA2c u) [] (fA2N0 u) [] = true := fun u hu => chkW_F (rng_k (p := fA2wp) (n := 4) (s := 61) (fun k hk => match k, hk with
  | 0, _ => fA2w_0
  | 1, _ => fA2w_1
  | 2, _ => fA2w_2
  | 3, _ => fA2w_3
  | k + 4, h => absurd h (by omega)) (by decide) (by decide) u hu)
theorem fA2 (w : Nat) : vC tS tRA jM 2 (fA2c w) := by
  by_cases h : w < 242
  · exact famE (Fu := fA2F) (Ou := fA2O) (jM_st (c := (0, [], [], [], [(314, 10, 12)])) (by decide)) fA2w h (fa_cons (vUq (fA1 (w + 0)) (by decide)) (fa_cons (vUq (fA0 (w + 0)) (by decide)) (fa_nil)))
  · exact vC_vac (vacAt (by omega))
/-- X12_look, text A -/
def fA3F (u : Nat) : aFs := [(314, 10, Int.ofNat u, 240), (314, 8, 0, 0)]
def fA3O (u : Nat) : List (Option aV × List (Int × Int) × aFs) := [(some (aI (-1) (-1)), [(lLo, lHi)], [(314, 10, Int.ofNat u, 240)]), (some (aI 0 255), [(lLo, lHi)], [(314, 10, Int.ofNat u, 239)])]
def fA3c (u : Nat) : aCt := (162, [aR [314]], fA3F u, fA3O u, [(314, 10, 11)])
def fA3T (u : Nat) : List aCt := []
def fA3N0 (u : Nat) : List aNd := []
def fA3X (u : Nat) : List aNd := [(0, [(0, aR [314])], [(314, 10, Int.ofNat u, 240), (314, 8, 0, 0)], 0, [])]
def fA3N (u : Nat) : List aNd := []
noncomputable def fA3up (u : Nat) : Bool := chkUF tS tRA 39 (fA3T u) (fA3c u) (fA3c (u + 1)) [] none u (fA3N u) (fA3X u) (fA3X (u + 1))
set_option maxRecDepth 100000 in
theorem fA3u_0 : (List.range 61).all (fun q => Nat.ble 241 (61 * 0 + q) || fA3up (61 * 0 + q)) = true := by decide +kernel
set_option maxRecDepth 100000 in
theorem fA3u_1 : (List.range 61).all (fun q => Nat.ble 241 (61 * 1 + q) || fA3up (61 * 1 + q)) = true := by decide +kernel
set_option maxRecDepth 100000 in
theorem fA3u_2 : (List.range 61).all (fun q => Nat.ble 241 (61 * 2 + q) || fA3up (61 * 2 + q)) = true := by decide +kernel
set_option maxRecDepth 100000 in
theorem fA3u_3 : (List.range 61).all (fun q => Nat.ble 241 (61 * 3 + q) || fA3up (61 * 3 + q)) = true := by decide +kernel
theorem fA3u : ∀ u, u < 241 → chkU tS tRA 39 (fA3T u) (fA3c u) (fA3c (u + 1)) [] none u (fA3N u) (fA3X u) (fA3X (u + 1)) = true := fun u hu => chkU_F (rng_k (p := fA3up) (n := 4) (s := 61) (fun k hk => match k, hk with
  | 0, _ => fA3u_0
  | 1, _ => fA3u_1
  | 2, _ => fA3u_2
  | 3, _ => fA3u_3
  | k + 4, h => absurd h (by omega)) (by decide) (by decide) u hu)
noncomputable def fA3wp (u : Nat) : Bool := chkWF tS tRA 39 (fA3T u) (fA3c u) [] (fA3N0 u) (fA3X u)
set_option maxRecDepth 100000 in
theorem fA3w_0 : (List.range 61).all (fun q => Nat.ble 241 (61 * 0 + q) || fA3wp (61 * 0 + q)) = true := by decide +kernel
set_option maxRecDepth 100000 in
theorem fA3w_1 : (List.range 61).all (fun q => Nat.ble 241 (61 * 1 + q) || fA3wp (61 * 1 + q)) = true := by decide +kernel
set_option maxRecDepth 100000 in
theorem fA3w_2 : (List.range 61).all (fun q => Nat.ble 241 (61 * 2 + q) || fA3wp (61 * 2 + q)) = true := by decide +kernel
set_option maxRecDepth 100000 in
theorem fA3w_3 : (List.range 61).all (fun q => Nat.ble 241 (61 * 3 + q) || fA3wp (61 * 3 + q)) = true := by decide +kernel
theorem fA3w : ∀ u, u < 241 → chkW tS tRA 39 (fA3T u) (fA3c u) [] (fA3N0 u) (fA3X u) = true := fun u hu => chkW_F (rng_k (p := fA3wp) (n := 4) (s := 61) (fun k hk => match k, hk with
  | 0, _ => fA3w_0
  | 1, _ => fA3w_1
  | 2, _ => fA3w_2
  | 3, _ => fA3w_3
  | k + 4, h => absurd h (by omega)) (by decide) (by decide) u hu)
theorem fA3 (w : Nat) : vC tS tRA jM 1 (fA3c w) := by
  by_cases h : w < 241
  · exact famW (Fu := fA3F) (Ou := fA3O) (jM_st (c := (0, [], [], [], [(314, 10, 11)])) (by decide)) fA3u (by decide +kernel) fA3w h (fa_nil) (fun u _ _ => fa_nil)
  · exact vC_vac (vacAt (by omega))
/-- X12_takes, text A -/
def fA4F (u : Nat) : aFs := [(314, 10, Int.ofNat u, 241), (314, 8, 0, 0)]
def fA4O (u : Nat) : List (Option aV × List (Int × Int) × aFs) := [(some (aI 0 0), [(lLo, lHi), (63, 63)], [(314, 10, Int.ofNat u, 241)]), (some (aI 1 1), [(lLo, lHi), (63, 63)], [(314, 10, Int.ofNat (u + 1), 240)])]
def fA4c (u : Nat) : aCt := (165, [aR [314], aI 63 63], fA4F u, fA4O u, [(314, 10, 12)])
def fA4T (u : Nat) : List aCt := [fA1c (u + 0), fA0c (u + 0)]
def fA4N0 (u : Nat) : List aNd := []
noncomputable def fA4wp (u : Nat) : Bool := chkWF tS tRA 23 (fA4T u) (fA4c u) [] (fA4N0 u) []
set_option maxRecDepth 100000 in
theorem fA4w_0 : (List.range 61).all (fun q => Nat.ble 242 (61 * 0 + q) || fA4wp (61 * 0 + q)) = true := by decide +kernel
set_option maxRecDepth 100000 in
theorem fA4w_1 : (List.range 61).all (fun q => Nat.ble 242 (61 * 1 + q) || fA4wp (61 * 1 + q)) = true := by decide +kernel
set_option maxRecDepth 100000 in
theorem fA4w_2 : (List.range 61).all (fun q => Nat.ble 242 (61 * 2 + q) || fA4wp (61 * 2 + q)) = true := by decide +kernel
set_option maxRecDepth 100000 in
theorem fA4w_3 : (List.range 61).all (fun q => Nat.ble 242 (61 * 3 + q) || fA4wp (61 * 3 + q)) = true := by decide +kernel
theorem fA4w : ∀ u, u < 242 → chkW tS tRA 23 (fA4T u) (fA4c u) [] (fA4N0 u) [] = true := fun u hu => chkW_F (rng_k (p := fA4wp) (n := 4) (s := 61) (fun k hk => match k, hk with
  | 0, _ => fA4w_0
  | 1, _ => fA4w_1
  | 2, _ => fA4w_2
  | 3, _ => fA4w_3
  | k + 4, h => absurd h (by omega)) (by decide) (by decide) u hu)
theorem fA4 (w : Nat) : vC tS tRA jM 2 (fA4c w) := by
  by_cases h : w < 242
  · exact famE (Fu := fA4F) (Ou := fA4O) (jM_st (c := (0, [], [], [], [(314, 10, 12)])) (by decide)) fA4w h (fa_cons (vUq (fA1 (w + 0)) (by decide)) (fa_cons (vUq (fA0 (w + 0)) (by decide)) (fa_nil)))
  · exact vC_vac (vacAt (by omega))
/-- X12_isDigit, text A -/
def fA10F (u : Nat) : aFs := [(314, 10, Int.ofNat u, 241), (314, 8, 0, 0)]
def fA10O (u : Nat) : List (Option aV × List (Int × Int) × aFs) := [(some (aI 0 0), [(lLo, lHi)], [(314, 10, Int.ofNat u, 241)]), (some (aI 1 1), [(lLo, lHi)], [(314, 10, Int.ofNat u, 239)])]
def fA10c (u : Nat) : aCt := (166, [aR [314]], fA10F u, fA10O u, [])
def fA10T (u : Nat) : List aCt := []
def fA10N0 (u : Nat) : List aNd := []
noncomputable def fA10wp (u : Nat) : Bool := chkWF tS tRA 35 (fA10T u) (fA10c u) [] (fA10N0 u) []
set_option maxRecDepth 100000 in
theorem fA10w_0 : (List.range 61).all (fun q => Nat.ble 242 (61 * 0 + q) || fA10wp (61 * 0 + q)) = true := by decide +kernel
set_option maxRecDepth 100000 in
theorem fA10w_1 : (List.range 61).all (fun q => Nat.ble 242 (61 * 1 + q) || fA10wp (61 * 1 + q)) = true := by decide +kernel
set_option maxRecDepth 100000 in
theorem fA10w_2 : (List.range 61).all (fun q => Nat.ble 242 (61 * 2 + q) || fA10wp (61 * 2 + q)) = true := by decide +kernel
set_option maxRecDepth 100000 in
theorem fA10w_3 : (List.range 61).all (fun q => Nat.ble 242 (61 * 3 + q) || fA10wp (61 * 3 + q)) = true := by decide +kernel
theorem fA10w : ∀ u, u < 242 → chkW tS tRA 35 (fA10T u) (fA10c u) [] (fA10N0 u) [] = true := fun u hu => chkW_F (rng_k (p := fA10wp) (n := 4) (s := 61) (fun k hk => match k, hk with
  | 0, _ => fA10w_0
  | 1, _ => fA10w_1
  | 2, _ => fA10w_2
  | 3, _ => fA10w_3
  | k + 4, h => absurd h (by omega)) (by decide) (by decide) u hu)
theorem fA10 (w : Nat) : vC tS tRA jM 1 (fA10c w) := by
  by_cases h : w < 242
  · exact famE (Fu := fA10F) (Ou := fA10O) (jM_st (c := (0, [], [], [], [])) (by decide)) fA10w h (fa_nil)
  · exact vC_vac (vacAt (by omega))
/-- X12_goesIn, text A -/
def fA11F (u : Nat) : aFs := [(314, 10, Int.ofNat u, 239), (314, 8, 0, 0)]
def fA11O (u : Nat) : List (Option aV × List (Int × Int) × aFs) := [(some (aI 1 1), [(lLo, lHi)], [(314, 10, Int.ofNat (u + 1), 240)]), (some (aI 0 0), [(lLo, lHi)], [(314, 10, Int.ofNat u, 239)])]
def fA11c (u : Nat) : aCt := (164, [aR [314]], fA11F u, fA11O u, [(314, 10, 13)])
def fA11T (u : Nat) : List aCt := [fA1c (u + 0)]
def fA11N0 (u : Nat) : List aNd := []
noncomputable def fA11wp (u : Nat) : Bool := chkWF tS tRA 25 (fA11T u) (fA11c u) [] (fA11N0 u) []
set_option maxRecDepth 100000 in
theorem fA11w_0 : (List.range 61).all (fun q => Nat.ble 240 (61 * 0 + q) || fA11wp (61 * 0 + q)) = true := by decide +kernel
set_option maxRecDepth 100000 in
theorem fA11w_1 : (List.range 61).all (fun q => Nat.ble 240 (61 * 1 + q) || fA11wp (61 * 1 + q)) = true := by decide +kernel
set_option maxRecDepth 100000 in
theorem fA11w_2 : (List.range 61).all (fun q => Nat.ble 240 (61 * 2 + q) || fA11wp (61 * 2 + q)) = true := by decide +kernel
set_option maxRecDepth 100000 in
theorem fA11w_3 : (List.range 61).all (fun q => Nat.ble 240 (61 * 3 + q) || fA11wp (61 * 3 + q)) = true := by decide +kernel
theorem fA11w : ∀ u, u < 240 → chkW tS tRA 25 (fA11T u) (fA11c u) [] (fA11N0 u) [] = true := fun u hu => chkW_F (rng_k (p := fA11wp) (n := 4) (s := 61) (fun k hk => match k, hk with
  | 0, _ => fA11w_0
  | 1, _ => fA11w_1
  | 2, _ => fA11w_2
  | 3, _ => fA11w_3
  | k + 4, h => absurd h (by omega)) (by decide) (by decide) u hu)
theorem fA11 (w : Nat) : vC tS tRA jM 2 (fA11c w) := by
  by_cases h : w < 240
  · exact famE (Fu := fA11F) (Ou := fA11O) (jM_st (c := (0, [], [], [], [(314, 10, 13)])) (by decide)) fA11w h (fa_cons (vUq (fA1 (w + 0)) (by decide)) (fa_nil))
  · exact vC_vac (vacAt (by omega))
/-- X12_takes, text A -/
def fA12F (u : Nat) : aFs := [(314, 10, Int.ofNat u, 241), (314, 8, 0, 0)]
def fA12O (u : Nat) : List (Option aV × List (Int × Int) × aFs) := [(some (aI 0 0), [(lLo, lHi), (93, 93)], [(314, 10, Int.ofNat u, 241)]), (some (aI 1 1), [(lLo, lHi), (93, 93)], [(314, 10, Int.ofNat (u + 1), 240)])]
def fA12c (u : Nat) : aCt := (165, [aR [314], aI 93 93], fA12F u, fA12O u, [(314, 10, 12)])
def fA12T (u : Nat) : List aCt := [fA1c (u + 0), fA0c (u + 0)]
def fA12N0 (u : Nat) : List aNd := []
noncomputable def fA12wp (u : Nat) : Bool := chkWF tS tRA 23 (fA12T u) (fA12c u) [] (fA12N0 u) []
set_option maxRecDepth 100000 in
theorem fA12w_0 : (List.range 61).all (fun q => Nat.ble 242 (61 * 0 + q) || fA12wp (61 * 0 + q)) = true := by decide +kernel
set_option maxRecDepth 100000 in
theorem fA12w_1 : (List.range 61).all (fun q => Nat.ble 242 (61 * 1 + q) || fA12wp (61 * 1 + q)) = true := by decide +kernel
set_option maxRecDepth 100000 in
theorem fA12w_2 : (List.range 61).all (fun q => Nat.ble 242 (61 * 2 + q) || fA12wp (61 * 2 + q)) = true := by decide +kernel
set_option maxRecDepth 100000 in
theorem fA12w_3 : (List.range 61).all (fun q => Nat.ble 242 (61 * 3 + q) || fA12wp (61 * 3 + q)) = true := by decide +kernel
theorem fA12w : ∀ u, u < 242 → chkW tS tRA 23 (fA12T u) (fA12c u) [] (fA12N0 u) [] = true := fun u hu => chkW_F (rng_k (p := fA12wp) (n := 4) (s := 61) (fun k hk => match k, hk with
  | 0, _ => fA12w_0
  | 1, _ => fA12w_1
  | 2, _ => fA12w_2
  | 3, _ => fA12w_3
  | k + 4, h => absurd h (by omega)) (by decide) (by decide) u hu)
theorem fA12 (w : Nat) : vC tS tRA jM 2 (fA12c w) := by
  by_cases h : w < 242
  · exact famE (Fu := fA12F) (Ou := fA12O) (jM_st (c := (0, [], [], [], [(314, 10, 12)])) (by decide)) fA12w h (fa_cons (vUq (fA1 (w + 0)) (by decide)) (fa_cons (vUq (fA0 (w + 0)) (by decide)) (fa_nil)))
  · exact vC_vac (vacAt (by omega))
/-- X12_takes, text A -/
def fA15F (u : Nat) : aFs := [(314, 10, Int.ofNat u, 241), (314, 8, 0, 0)]
def fA15O (u : Nat) : List (Option aV × List (Int × Int) × aFs) := [(some (aI 0 0), [(lLo, lHi), (41, 41)], [(314, 10, Int.ofNat u, 241)]), (some (aI 1 1), [(lLo, lHi), (41, 41)], [(314, 10, Int.ofNat (u + 1), 240)])]
def fA15c (u : Nat) : aCt := (165, [aR [314], aI 41 41], fA15F u, fA15O u, [(314, 10, 12)])
def fA15T (u : Nat) : List aCt := [fA1c (u + 0), fA0c (u + 0)]
def fA15N0 (u : Nat) : List aNd := []
noncomputable def fA15wp (u : Nat) : Bool := chkWF tS tRA 23 (fA15T u) (fA15c u) [] (fA15N0 u) []
set_option maxRecDepth 100000 in
theorem fA15w_0 : (List.range 61).all (fun q => Nat.ble 242 (61 * 0 + q) || fA15wp (61 * 0 + q)) = true := by decide +kernel
set_option maxRecDepth 100000 in
theorem fA15w_1 : (List.range 61).all (fun q => Nat.ble 242 (61 * 1 + q) || fA15wp (61 * 1 + q)) = true := by decide +kernel
set_option maxRecDepth 100000 in
theorem fA15w_2 : (List.range 61).all (fun q => Nat.ble 242 (61 * 2 + q) || fA15wp (61 * 2 + q)) = true := by decide +kernel
set_option maxRecDepth 100000 in
theorem fA15w_3 : (List.range 61).all (fun q => Nat.ble 242 (61 * 3 + q) || fA15wp (61 * 3 + q)) = true := by decide +kernel
theorem fA15w : ∀ u, u < 242 → chkW tS tRA 23 (fA15T u) (fA15c u) [] (fA15N0 u) [] = true := fun u hu => chkW_F (rng_k (p := fA15wp) (n := 4) (s := 61) (fun k hk => match k, hk with
  | 0, _ => fA15w_0
  | 1, _ => fA15w_1
  | 2, _ => fA15w_2
  | 3, _ => fA15w_3
  | k + 4, h => absurd h (by omega)) (by decide) (by decide) u hu)
theorem fA15 (w : Nat) : vC tS tRA jM 2 (fA15c w) := by
  by_cases h : w < 242
  · exact famE (Fu := fA15F) (Ou := fA15O) (jM_st (c := (0, [], [], [], [(314, 10, 12)])) (by decide)) fA15w h (fa_cons (vUq (fA1 (w + 0)) (by decide)) (fa_cons (vUq (fA0 (w + 0)) (by decide)) (fa_nil)))
  · exact vC_vac (vacAt (by omega))
