/-! L2: the parser of the reference, nonB -/
/-- X12_look, text B -/
def fB0F (u : Nat) : aFs := [(314, 10, Int.ofNat u, 241)]
def fB0O (u : Nat) : List (Option aV × List (Int × Int) × aFs) := [(some (aI (-1) (-1)), [(lLo, lHi)], [(314, 10, Int.ofNat u, 241)]), (some (aI 0 255), [(lLo, lHi)], [(314, 10, Int.ofNat u, 239)])]
def fB0c (u : Nat) : aCt := (162, [aR [314]], fB0F u, fB0O u, [(314, 10, 11)])
def fB0T (u : Nat) : List aCt := []
def fB0N0 (u : Nat) : List aNd := []
def fB0X (u : Nat) : List aNd := [(0, [(0, aR [314])], [(314, 10, Int.ofNat u, 241)], 0, [])]
def fB0N (u : Nat) : List aNd := []
noncomputable def fB0up (u : Nat) : Bool := chkUF tS tRB 39 (fB0T u) (fB0c u) (fB0c (u + 1)) [] none u (fB0N u) (fB0X u) (fB0X (u + 1))
set_option maxRecDepth 100000 in
theorem fB0u_0 : (List.range 61).all (fun q => Nat.ble 242 (61 * 0 + q) || fB0up (61 * 0 + q)) = true := by decide +kernel
set_option maxRecDepth 100000 in
theorem fB0u_1 : (List.range 61).all (fun q => Nat.ble 242 (61 * 1 + q) || fB0up (61 * 1 + q)) = true := by decide +kernel
set_option maxRecDepth 100000 in
theorem fB0u_2 : (List.range 61).all (fun q => Nat.ble 242 (61 * 2 + q) || fB0up (61 * 2 + q)) = true := by decide +kernel
set_option maxRecDepth 100000 in
theorem fB0u_3 : (List.range 61).all (fun q => Nat.ble 242 (61 * 3 + q) || fB0up (61 * 3 + q)) = true := by decide +kernel
theorem fB0u : ∀ u, u < 242 → chkU tS tRB 39 (fB0T u) (fB0c u) (fB0c (u + 1)) [] none u (fB0N u) (fB0X u) (fB0X (u + 1)) = true := fun u hu => chkU_F (rng_k (p := fB0up) (n := 4) (s := 61) (fun k hk => match k, hk with
  | 0, _ => fB0u_0
  | 1, _ => fB0u_1
  | 2, _ => fB0u_2
  | 3, _ => fB0u_3
  | k + 4, h => absurd h (by omega)) (by decide) (by decide) u hu)
noncomputable def fB0wp (u : Nat) : Bool := chkWF tS tRB 39 (fB0T u) (fB0c u) [] (fB0N0 u) (fB0X u)
set_option maxRecDepth 100000 in
theorem fB0w_0 : (List.range 61).all (fun q => Nat.ble 242 (61 * 0 + q) || fB0wp (61 * 0 + q)) = true := by decide +kernel
set_option maxRecDepth 100000 in
theorem fB0w_1 : (List.range 61).all (fun q => Nat.ble 242 (61 * 1 + q) || fB0wp (61 * 1 + q)) = true := by decide +kernel
set_option maxRecDepth 100000 in
theorem fB0w_2 : (List.range 61).all (fun q => Nat.ble 242 (61 * 2 + q) || fB0wp (61 * 2 + q)) = true := by decide +kernel
set_option maxRecDepth 100000 in
theorem fB0w_3 : (List.range 61).all (fun q => Nat.ble 242 (61 * 3 + q) || fB0wp (61 * 3 + q)) = true := by decide +kernel
theorem fB0w : ∀ u, u < 242 → chkW tS tRB 39 (fB0T u) (fB0c u) [] (fB0N0 u) (fB0X u) = true := fun u hu => chkW_F (rng_k (p := fB0wp) (n := 4) (s := 61) (fun k hk => match k, hk with
  | 0, _ => fB0w_0
  | 1, _ => fB0w_1
  | 2, _ => fB0w_2
  | 3, _ => fB0w_3
  | k + 4, h => absurd h (by omega)) (by decide) (by decide) u hu)
theorem fB0 (w : Nat) : vC tS tRB jM 1 (fB0c w) := by
  by_cases h : w < 242
  · exact famW (Fu := fB0F) (Ou := fB0O) (jM_st (c := (0, [], [], [], [(314, 10, 11)])) (by decide)) fB0u (by decide +kernel) fB0w h (fa_nil) (fun u _ _ => fa_nil)
  · exact vC_vac (vacAt (by omega))
/-- X12_fails, text B -/
def fB1F (u : Nat) : aFs := [(314, 10, Int.ofNat u, 241)]
def fB1O (u : Nat) : List (Option aV × List (Int × Int) × aFs) := [(some (aI 0 0), [(lLo, lHi)], [(314, 10, Int.ofNat u, 241)])]
def fB1c (u : Nat) : aCt := (163, [aR [314]], fB1F u, fB1O u, [(314, 11, 12)])
def fB1T (u : Nat) : List aCt := []
def fB1N0 (u : Nat) : List aNd := []
noncomputable def fB1wp (u : Nat) : Bool := chkWF tS tRB 17 (fB1T u) (fB1c u) [] (fB1N0 u) []
set_option maxRecDepth 100000 in
theorem fB1w_0 : (List.range 61).all (fun q => Nat.ble 242 (61 * 0 + q) || fB1wp (61 * 0 + q)) = true := by decide +kernel
set_option maxRecDepth 100000 in
theorem fB1w_1 : (List.range 61).all (fun q => Nat.ble 242 (61 * 1 + q) || fB1wp (61 * 1 + q)) = true := by decide +kernel
set_option maxRecDepth 100000 in
theorem fB1w_2 : (List.range 61).all (fun q => Nat.ble 242 (61 * 2 + q) || fB1wp (61 * 2 + q)) = true := by decide +kernel
set_option maxRecDepth 100000 in
theorem fB1w_3 : (List.range 61).all (fun q => Nat.ble 242 (61 * 3 + q) || fB1wp (61 * 3 + q)) = true := by decide +kernel
theorem fB1w : ∀ u, u < 242 → chkW tS tRB 17 (fB1T u) (fB1c u) [] (fB1N0 u) [] = true := fun u hu => chkW_F (rng_k (p := fB1wp) (n := 4) (s := 61) (fun k hk => match k, hk with
  | 0, _ => fB1w_0
  | 1, _ => fB1w_1
  | 2, _ => fB1w_2
  | 3, _ => fB1w_3
  | k + 4, h => absurd h (by omega)) (by decide) (by decide) u hu)
theorem fB1 (w : Nat) : vC tS tRB jM 1 (fB1c w) := by
  by_cases h : w < 242
  · exact famE (Fu := fB1F) (Ou := fB1O) (jM_st (c := (0, [], [], [], [(314, 11, 12)])) (by decide)) fB1w h (fa_nil)
  · exact vC_vac (vacAt (by omega))
/-- X12_takes, text B -/
def fB2F (u : Nat) : aFs := [(314, 10, Int.ofNat u, 241)]
def fB2O (u : Nat) : List (Option aV × List (Int × Int) × aFs) := [(some (aI 0 0), [(lLo, lHi), (58, 58)], [(314, 10, Int.ofNat u, 241)]), (some (aI 1 1), [(lLo, lHi), (58, 58)], [(314, 10, Int.ofNat (u + 1), 240)])]
def fB2c (u : Nat) : aCt := (165, [aR [314], aI 58 58], fB2F u, fB2O u, [(314, 10, 12)])
def fB2T (u : Nat) : List aCt := [fB1c (u + 0), fB0c (u + 0)]
def fB2N0 (u : Nat) : List aNd := []
noncomputable def fB2wp (u : Nat) : Bool := chkWF tS tRB 23 (fB2T u) (fB2c u) [] (fB2N0 u) []
set_option maxRecDepth 100000 in
theorem fB2w_0 : (List.range 61).all (fun q => Nat.ble 242 (61 * 0 + q) || fB2wp (61 * 0 + q)) = true := by decide +kernel
set_option maxRecDepth 100000 in
theorem fB2w_1 : (List.range 61).all (fun q => Nat.ble 242 (61 * 1 + q) || fB2wp (61 * 1 + q)) = true := by decide +kernel
set_option maxRecDepth 100000 in
theorem fB2w_2 : (List.range 61).all (fun q => Nat.ble 242 (61 * 2 + q) || fB2wp (61 * 2 + q)) = true := by decide +kernel
set_option maxRecDepth 100000 in
theorem fB2w_3 : (List.range 61).all (fun q => Nat.ble 242 (61 * 3 + q) || fB2wp (61 * 3 + q)) = true := by decide +kernel
theorem fB2w : ∀ u, u < 242 → chkW tS tRB 23 (fB2T u) (fB2c u) [] (fB2N0 u) [] = true := fun u hu => chkW_F (rng_k (p := fB2wp) (n := 4) (s := 61) (fun k hk => match k, hk with
  | 0, _ => fB2w_0
  | 1, _ => fB2w_1
  | 2, _ => fB2w_2
  | 3, _ => fB2w_3
  | k + 4, h => absurd h (by omega)) (by decide) (by decide) u hu)
theorem fB2 (w : Nat) : vC tS tRB jM 2 (fB2c w) := by
  by_cases h : w < 242
  · exact famE (Fu := fB2F) (Ou := fB2O) (jM_st (c := (0, [], [], [], [(314, 10, 12)])) (by decide)) fB2w h (fa_cons (vUq (fB1 (w + 0)) (by decide)) (fa_cons (vUq (fB0 (w + 0)) (by decide)) (fa_nil)))
  · exact vC_vac (vacAt (by omega))
/-- X12_look, text B -/
def fB3F (u : Nat) : aFs := [(314, 10, Int.ofNat u, 240)]
def fB3O (u : Nat) : List (Option aV × List (Int × Int) × aFs) := [(some (aI (-1) (-1)), [(lLo, lHi)], [(314, 10, Int.ofNat u, 240)]), (some (aI 0 255), [(lLo, lHi)], [(314, 10, Int.ofNat u, 239)])]
def fB3c (u : Nat) : aCt := (162, [aR [314]], fB3F u, fB3O u, [(314, 10, 11)])
def fB3T (u : Nat) : List aCt := []
def fB3N0 (u : Nat) : List aNd := []
def fB3X (u : Nat) : List aNd := [(0, [(0, aR [314])], [(314, 10, Int.ofNat u, 240)], 0, [])]
def fB3N (u : Nat) : List aNd := []
noncomputable def fB3up (u : Nat) : Bool := chkUF tS tRB 39 (fB3T u) (fB3c u) (fB3c (u + 1)) [] none u (fB3N u) (fB3X u) (fB3X (u + 1))
set_option maxRecDepth 100000 in
theorem fB3u_0 : (List.range 61).all (fun q => Nat.ble 241 (61 * 0 + q) || fB3up (61 * 0 + q)) = true := by decide +kernel
set_option maxRecDepth 100000 in
theorem fB3u_1 : (List.range 61).all (fun q => Nat.ble 241 (61 * 1 + q) || fB3up (61 * 1 + q)) = true := by decide +kernel
set_option maxRecDepth 100000 in
theorem fB3u_2 : (List.range 61).all (fun q => Nat.ble 241 (61 * 2 + q) || fB3up (61 * 2 + q)) = true := by decide +kernel
set_option maxRecDepth 100000 in
theorem fB3u_3 : (List.range 61).all (fun q => Nat.ble 241 (61 * 3 + q) || fB3up (61 * 3 + q)) = true := by decide +kernel
theorem fB3u : ∀ u, u < 241 → chkU tS tRB 39 (fB3T u) (fB3c u) (fB3c (u + 1)) [] none u (fB3N u) (fB3X u) (fB3X (u + 1)) = true := fun u hu => chkU_F (rng_k (p := fB3up) (n := 4) (s := 61) (fun k hk => match k, hk with
  | 0, _ => fB3u_0
  | 1, _ => fB3u_1
  | 2, _ => fB3u_2
  | 3, _ => fB3u_3
  | k + 4, h => absurd h (by omega)) (by decide) (by decide) u hu)
noncomputable def fB3wp (u : Nat) : Bool := chkWF tS tRB 39 (fB3T u) (fB3c u) [] (fB3N0 u) (fB3X u)
set_option maxRecDepth 100000 in
theorem fB3w_0 : (List.range 61).all (fun q => Nat.ble 241 (61 * 0 + q) || fB3wp (61 * 0 + q)) = true := by decide +kernel
set_option maxRecDepth 100000 in
theorem fB3w_1 : (List.range 61).all (fun q => Nat.ble 241 (61 * 1 + q) || fB3wp (61 * 1 + q)) = true := by decide +kernel
set_option maxRecDepth 100000 in
theorem fB3w_2 : (List.range 61).all (fun q => Nat.ble 241 (61 * 2 + q) || fB3wp (61 * 2 + q)) = true := by decide +kernel
set_option maxRecDepth 100000 in
theorem fB3w_3 : (List.range 61).all (fun q => Nat.ble 241 (61 * 3 + q) || fB3wp (61 * 3 + q)) = true := by decide +kernel
theorem fB3w : ∀ u, u < 241 → chkW tS tRB 39 (fB3T u) (fB3c u) [] (fB3N0 u) (fB3X u) = true := fun u hu => chkW_F (rng_k (p := fB3wp) (n := 4) (s := 61) (fun k hk => match k, hk with
  | 0, _ => fB3w_0
  | 1, _ => fB3w_1
  | 2, _ => fB3w_2
  | 3, _ => fB3w_3
  | k + 4, h => absurd h (by omega)) (by decide) (by decide) u hu)
theorem fB3 (w : Nat) : vC tS tRB jM 1 (fB3c w) := by
  by_cases h : w < 241
  · exact famW (Fu := fB3F) (Ou := fB3O) (jM_st (c := (0, [], [], [], [(314, 10, 11)])) (by decide)) fB3u (by decide +kernel) fB3w h (fa_nil) (fun u _ _ => fa_nil)
  · exact vC_vac (vacAt (by omega))
/-- X12_takes, text B -/
def fB4F (u : Nat) : aFs := [(314, 10, Int.ofNat u, 241)]
def fB4O (u : Nat) : List (Option aV × List (Int × Int) × aFs) := [(some (aI 0 0), [(lLo, lHi), (63, 63)], [(314, 10, Int.ofNat u, 241)]), (some (aI 1 1), [(lLo, lHi), (63, 63)], [(314, 10, Int.ofNat (u + 1), 240)])]
def fB4c (u : Nat) : aCt := (165, [aR [314], aI 63 63], fB4F u, fB4O u, [(314, 10, 12)])
def fB4T (u : Nat) : List aCt := [fB1c (u + 0), fB0c (u + 0)]
def fB4N0 (u : Nat) : List aNd := []
noncomputable def fB4wp (u : Nat) : Bool := chkWF tS tRB 23 (fB4T u) (fB4c u) [] (fB4N0 u) []
set_option maxRecDepth 100000 in
theorem fB4w_0 : (List.range 61).all (fun q => Nat.ble 242 (61 * 0 + q) || fB4wp (61 * 0 + q)) = true := by decide +kernel
set_option maxRecDepth 100000 in
theorem fB4w_1 : (List.range 61).all (fun q => Nat.ble 242 (61 * 1 + q) || fB4wp (61 * 1 + q)) = true := by decide +kernel
set_option maxRecDepth 100000 in
theorem fB4w_2 : (List.range 61).all (fun q => Nat.ble 242 (61 * 2 + q) || fB4wp (61 * 2 + q)) = true := by decide +kernel
set_option maxRecDepth 100000 in
theorem fB4w_3 : (List.range 61).all (fun q => Nat.ble 242 (61 * 3 + q) || fB4wp (61 * 3 + q)) = true := by decide +kernel
theorem fB4w : ∀ u, u < 242 → chkW tS tRB 23 (fB4T u) (fB4c u) [] (fB4N0 u) [] = true := fun u hu => chkW_F (rng_k (p := fB4wp) (n := 4) (s := 61) (fun k hk => match k, hk with
  | 0, _ => fB4w_0
  | 1, _ => fB4w_1
  | 2, _ => fB4w_2
  | 3, _ => fB4w_3
  | k + 4, h => absurd h (by omega)) (by decide) (by decide) u hu)
theorem fB4 (w : Nat) : vC tS tRB jM 2 (fB4c w) := by
  by_cases h : w < 242
  · exact famE (Fu := fB4F) (Ou := fB4O) (jM_st (c := (0, [], [], [], [(314, 10, 12)])) (by decide)) fB4w h (fa_cons (vUq (fB1 (w + 0)) (by decide)) (fa_cons (vUq (fB0 (w + 0)) (by decide)) (fa_nil)))
  · exact vC_vac (vacAt (by omega))
/-- X12_isDigit, text B -/
def fB10F (u : Nat) : aFs := [(314, 10, Int.ofNat u, 241)]
def fB10O (u : Nat) : List (Option aV × List (Int × Int) × aFs) := [(some (aI 0 0), [(lLo, lHi)], [(314, 10, Int.ofNat u, 241)]), (some (aI 1 1), [(lLo, lHi)], [(314, 10, Int.ofNat u, 239)])]
def fB10c (u : Nat) : aCt := (166, [aR [314]], fB10F u, fB10O u, [])
def fB10T (u : Nat) : List aCt := []
def fB10N0 (u : Nat) : List aNd := []
noncomputable def fB10wp (u : Nat) : Bool := chkWF tS tRB 35 (fB10T u) (fB10c u) [] (fB10N0 u) []
set_option maxRecDepth 100000 in
theorem fB10w_0 : (List.range 61).all (fun q => Nat.ble 242 (61 * 0 + q) || fB10wp (61 * 0 + q)) = true := by decide +kernel
set_option maxRecDepth 100000 in
theorem fB10w_1 : (List.range 61).all (fun q => Nat.ble 242 (61 * 1 + q) || fB10wp (61 * 1 + q)) = true := by decide +kernel
set_option maxRecDepth 100000 in
theorem fB10w_2 : (List.range 61).all (fun q => Nat.ble 242 (61 * 2 + q) || fB10wp (61 * 2 + q)) = true := by decide +kernel
set_option maxRecDepth 100000 in
theorem fB10w_3 : (List.range 61).all (fun q => Nat.ble 242 (61 * 3 + q) || fB10wp (61 * 3 + q)) = true := by decide +kernel
theorem fB10w : ∀ u, u < 242 → chkW tS tRB 35 (fB10T u) (fB10c u) [] (fB10N0 u) [] = true := fun u hu => chkW_F (rng_k (p := fB10wp) (n := 4) (s := 61) (fun k hk => match k, hk with
  | 0, _ => fB10w_0
  | 1, _ => fB10w_1
  | 2, _ => fB10w_2
  | 3, _ => fB10w_3
  | k + 4, h => absurd h (by omega)) (by decide) (by decide) u hu)
theorem fB10 (w : Nat) : vC tS tRB jM 1 (fB10c w) := by
  by_cases h : w < 242
  · exact famE (Fu := fB10F) (Ou := fB10O) (jM_st (c := (0, [], [], [], [])) (by decide)) fB10w h (fa_nil)
  · exact vC_vac (vacAt (by omega))
/-- X12_goesIn, text B -/
def fB11F (u : Nat) : aFs := [(314, 10, Int.ofNat u, 239)]
def fB11O (u : Nat) : List (Option aV × List (Int × Int) × aFs) := [(some (aI 1 1), [(lLo, lHi)], [(314, 10, Int.ofNat (u + 1), 240)]), (some (aI 0 0), [(lLo, lHi)], [(314, 10, Int.ofNat u, 239)])]
def fB11c (u : Nat) : aCt := (164, [aR [314]], fB11F u, fB11O u, [(314, 10, 13)])
def fB11T (u : Nat) : List aCt := [fB1c (u + 0)]
def fB11N0 (u : Nat) : List aNd := []
noncomputable def fB11wp (u : Nat) : Bool := chkWF tS tRB 25 (fB11T u) (fB11c u) [] (fB11N0 u) []
set_option maxRecDepth 100000 in
theorem fB11w_0 : (List.range 61).all (fun q => Nat.ble 240 (61 * 0 + q) || fB11wp (61 * 0 + q)) = true := by decide +kernel
set_option maxRecDepth 100000 in
theorem fB11w_1 : (List.range 61).all (fun q => Nat.ble 240 (61 * 1 + q) || fB11wp (61 * 1 + q)) = true := by decide +kernel
set_option maxRecDepth 100000 in
theorem fB11w_2 : (List.range 61).all (fun q => Nat.ble 240 (61 * 2 + q) || fB11wp (61 * 2 + q)) = true := by decide +kernel
set_option maxRecDepth 100000 in
theorem fB11w_3 : (List.range 61).all (fun q => Nat.ble 240 (61 * 3 + q) || fB11wp (61 * 3 + q)) = true := by decide +kernel
theorem fB11w : ∀ u, u < 240 → chkW tS tRB 25 (fB11T u) (fB11c u) [] (fB11N0 u) [] = true := fun u hu => chkW_F (rng_k (p := fB11wp) (n := 4) (s := 61) (fun k hk => match k, hk with
  | 0, _ => fB11w_0
  | 1, _ => fB11w_1
  | 2, _ => fB11w_2
  | 3, _ => fB11w_3
  | k + 4, h => absurd h (by omega)) (by decide) (by decide) u hu)
theorem fB11 (w : Nat) : vC tS tRB jM 2 (fB11c w) := by
  by_cases h : w < 240
  · exact famE (Fu := fB11F) (Ou := fB11O) (jM_st (c := (0, [], [], [], [(314, 10, 13)])) (by decide)) fB11w h (fa_cons (vUq (fB1 (w + 0)) (by decide)) (fa_nil))
  · exact vC_vac (vacAt (by omega))
/-- X12_takes, text B -/
def fB12F (u : Nat) : aFs := [(314, 10, Int.ofNat u, 241)]
def fB12O (u : Nat) : List (Option aV × List (Int × Int) × aFs) := [(some (aI 0 0), [(lLo, lHi), (93, 93)], [(314, 10, Int.ofNat u, 241)]), (some (aI 1 1), [(lLo, lHi), (93, 93)], [(314, 10, Int.ofNat (u + 1), 240)])]
def fB12c (u : Nat) : aCt := (165, [aR [314], aI 93 93], fB12F u, fB12O u, [(314, 10, 12)])
def fB12T (u : Nat) : List aCt := [fB1c (u + 0), fB0c (u + 0)]
def fB12N0 (u : Nat) : List aNd := []
noncomputable def fB12wp (u : Nat) : Bool := chkWF tS tRB 23 (fB12T u) (fB12c u) [] (fB12N0 u) []
set_option maxRecDepth 100000 in
theorem fB12w_0 : (List.range 61).all (fun q => Nat.ble 242 (61 * 0 + q) || fB12wp (61 * 0 + q)) = true := by decide +kernel
set_option maxRecDepth 100000 in
theorem fB12w_1 : (List.range 61).all (fun q => Nat.ble 242 (61 * 1 + q) || fB12wp (61 * 1 + q)) = true := by decide +kernel
set_option maxRecDepth 100000 in
theorem fB12w_2 : (List.range 61).all (fun q => Nat.ble 242 (61 * 2 + q) || fB12wp (61 * 2 + q)) = true := by decide +kernel
set_option maxRecDepth 100000 in
theorem fB12w_3 : (List.range 61).all (fun q => Nat.ble 242 (61 * 3 + q) || fB12wp (61 * 3 + q)) = true := by decide +kernel
theorem fB12w : ∀ u, u < 242 → chkW tS tRB 23 (fB12T u) (fB12c u) [] (fB12N0 u) [] = true := fun u hu => chkW_F (rng_k (p := fB12wp) (n := 4) (s := 61) (fun k hk => match k, hk with
  | 0, _ => fB12w_0
  | 1, _ => fB12w_1
  | 2, _ => fB12w_2
  | 3, _ => fB12w_3
  | k + 4, h => absurd h (by omega)) (by decide) (by decide) u hu)
theorem fB12 (w : Nat) : vC tS tRB jM 2 (fB12c w) := by
  by_cases h : w < 242
  · exact famE (Fu := fB12F) (Ou := fB12O) (jM_st (c := (0, [], [], [], [(314, 10, 12)])) (by decide)) fB12w h (fa_cons (vUq (fB1 (w + 0)) (by decide)) (fa_cons (vUq (fB0 (w + 0)) (by decide)) (fa_nil)))
  · exact vC_vac (vacAt (by omega))
/-- X12_takes, text B -/
def fB15F (u : Nat) : aFs := [(314, 10, Int.ofNat u, 241)]
def fB15O (u : Nat) : List (Option aV × List (Int × Int) × aFs) := [(some (aI 0 0), [(lLo, lHi), (41, 41)], [(314, 10, Int.ofNat u, 241)]), (some (aI 1 1), [(lLo, lHi), (41, 41)], [(314, 10, Int.ofNat (u + 1), 240)])]
def fB15c (u : Nat) : aCt := (165, [aR [314], aI 41 41], fB15F u, fB15O u, [(314, 10, 12)])
def fB15T (u : Nat) : List aCt := [fB1c (u + 0), fB0c (u + 0)]
def fB15N0 (u : Nat) : List aNd := []
noncomputable def fB15wp (u : Nat) : Bool := chkWF tS tRB 23 (fB15T u) (fB15c u) [] (fB15N0 u) []
set_option maxRecDepth 100000 in
theorem fB15w_0 : (List.range 61).all (fun q => Nat.ble 242 (61 * 0 + q) || fB15wp (61 * 0 + q)) = true := by decide +kernel
set_option maxRecDepth 100000 in
theorem fB15w_1 : (List.range 61).all (fun q => Nat.ble 242 (61 * 1 + q) || fB15wp (61 * 1 + q)) = true := by decide +kernel
set_option maxRecDepth 100000 in
theorem fB15w_2 : (List.range 61).all (fun q => Nat.ble 242 (61 * 2 + q) || fB15wp (61 * 2 + q)) = true := by decide +kernel
set_option maxRecDepth 100000 in
theorem fB15w_3 : (List.range 61).all (fun q => Nat.ble 242 (61 * 3 + q) || fB15wp (61 * 3 + q)) = true := by decide +kernel
theorem fB15w : ∀ u, u < 242 → chkW tS tRB 23 (fB15T u) (fB15c u) [] (fB15N0 u) [] = true := fun u hu => chkW_F (rng_k (p := fB15wp) (n := 4) (s := 61) (fun k hk => match k, hk with
  | 0, _ => fB15w_0
  | 1, _ => fB15w_1
  | 2, _ => fB15w_2
  | 3, _ => fB15w_3
  | k + 4, h => absurd h (by omega)) (by decide) (by decide) u hu)
theorem fB15 (w : Nat) : vC tS tRB jM 2 (fB15c w) := by
  by_cases h : w < 242
  · exact famE (Fu := fB15F) (Ou := fB15O) (jM_st (c := (0, [], [], [], [(314, 10, 12)])) (by decide)) fB15w h (fa_cons (vUq (fB1 (w + 0)) (by decide)) (fa_cons (vUq (fB0 (w + 0)) (by decide)) (fa_nil)))
  · exact vC_vac (vacAt (by omega))
