/-! L2: goWay and goFeast: the recursions, by the bits that are met, left -/
section WAY
/-- X12_has -/
def w0c : aCt := (156, [aIt, aI 0 11], [], [(some (aI 0 0), [(iLo, iHi), (0, 11)], []), (some (aI 1 1), [(iLo, iHi), (0, 11)], [])], [])
set_option maxRecDepth 100000 in
theorem w0 : vC tS tR jM 1 w0c := chkF_ok (D := 0) (hst := jM_st (by decide +kernel)) (T := []) (N := []) (sp := []) (fu := 17) (fa_nil) (by decide +kernel)
/-- X12_between -/
def w1c : aCt := (224, [aR [314], aI 0 7, aI 0 7], [], [(some (aIt), [(lLo, lHi), (lLo, lHi), (lLo, lHi)], [])], [])
set_option maxRecDepth 100000 in
theorem w1 : vC tS tR jM 2 w1c := chkF_ok (D := 1) (hst := jM_st (by decide +kernel)) (T := [w0c]) (N := [(5, [(0, aR [314]), (1, aI 0 7), (2, aI 0 7), (3, aIt), (4, aI 0 12)], [], 0, [(4, 1, 12, true)])]) (sp := []) (fu := 84) (fa_cons (vUq w0 (by decide)) (fa_nil)) (by decide +kernel)
/-- X12_far0 -/
def w2c : aCt := (199, [aR [314], aI 0 7, aI 0 7], [], [(some (aI 0 100000), [(lLo, lHi), (0, 7), (0, 7)], [])], [])
set_option maxRecDepth 100000 in
theorem w2 : vC tS tR jM 1 w2c := chkF_ok (D := 0) (hst := jM_st (by decide +kernel)) (T := []) (N := []) (sp := []) (fu := 16) (fa_nil) (by decide +kernel)
/-- X12_canCome -/
def w3c : aCt := (200, [aR [314], aI 0 7, aI 0 7], [], [(some (aI 0 0), [(lLo, lHi), (0, 7), (0, 7)], []), (some (aI 1 1), [(lLo, lHi), (0, 7), (0, 7)], [])], [])
set_option maxRecDepth 100000 in
theorem w3 : vC tS tR jM 2 w3c := chkF_ok (D := 1) (hst := jM_st (by decide +kernel)) (T := [w2c]) (N := []) (sp := []) (fu := 16) (fa_cons (vUq w2 (by decide)) (fa_nil)) (by decide +kernel)
def hasr (u c : Nat) : Int := bif Nat.testBit u c then 1 else 0
def hasc (u c : Nat) : aCt := (156, [aI (Int.ofNat u) (Int.ofNat u), aI (Int.ofNat c) (Int.ofNat c)], [], [(some (aI (hasr u c) (hasr u c)), [(lLo, lHi), (lLo, lHi)], [])], [])
noncomputable def haskp (u : Nat) : Bool := chkWF tS tR 20 [] (hasc (u / 8) (u % 8)) [] [] []
set_option maxRecDepth 100000 in
theorem hask_0 : (List.range 256).all (fun q => Nat.ble 2048 (256 * 0 + q) || haskp (256 * 0 + q)) = true := by decide +kernel
set_option maxRecDepth 100000 in
theorem hask_1 : (List.range 256).all (fun q => Nat.ble 2048 (256 * 1 + q) || haskp (256 * 1 + q)) = true := by decide +kernel
set_option maxRecDepth 100000 in
theorem hask_2 : (List.range 256).all (fun q => Nat.ble 2048 (256 * 2 + q) || haskp (256 * 2 + q)) = true := by decide +kernel
set_option maxRecDepth 100000 in
theorem hask_3 : (List.range 256).all (fun q => Nat.ble 2048 (256 * 3 + q) || haskp (256 * 3 + q)) = true := by decide +kernel
set_option maxRecDepth 100000 in
theorem hask_4 : (List.range 256).all (fun q => Nat.ble 2048 (256 * 4 + q) || haskp (256 * 4 + q)) = true := by decide +kernel
set_option maxRecDepth 100000 in
theorem hask_5 : (List.range 256).all (fun q => Nat.ble 2048 (256 * 5 + q) || haskp (256 * 5 + q)) = true := by decide +kernel
set_option maxRecDepth 100000 in
theorem hask_6 : (List.range 256).all (fun q => Nat.ble 2048 (256 * 6 + q) || haskp (256 * 6 + q)) = true := by decide +kernel
set_option maxRecDepth 100000 in
theorem hask_7 : (List.range 256).all (fun q => Nat.ble 2048 (256 * 7 + q) || haskp (256 * 7 + q)) = true := by decide +kernel
theorem hask : ∀ u, u < 2048 → chkW tS tR 20 [] (hasc (u / 8) (u % 8)) [] [] [] = true := fun u hu => chkW_F (rng_k (p := haskp) (n := 8) (s := 256) (fun k hk => match k, hk with
  | 0, _ => hask_0
  | 1, _ => hask_1
  | 2, _ => hask_2
  | 3, _ => hask_3
  | 4, _ => hask_4
  | 5, _ => hask_5
  | 6, _ => hask_6
  | 7, _ => hask_7
  | k + 8, h => absurd h (by omega)) (by decide) (by decide) u hu)
theorem has_k {u c : Nat} (hu : u < 256) (hc : c < 8) : vC tS tR jM 1 (hasc u c) := by
  have h := hask (u * 8 + c) (by omega)
  rw [show (u * 8 + c) / 8 = u by omega, show (u * 8 + c) % 8 = c by omega] at h
  exact chkW_ok (D := 0) fa_nil (jM_st (c := hasc u c) (show jmB (0, [], [], [], []) = true from rfl)) h
def gwO : List (Option aV × List (Int × Int) × aFs) := [(none, [(lLo, lHi), (lLo, lHi), (lLo, lHi), (lLo, lHi), (lLo, lHi), (lLo, lHi), (lLo, lHi)], [])]
def gwc (u : Nat) : aCt := (227, [aR [314], aI 0 7, aI 0 7, aI (Int.ofNat u) (Int.ofNat u), aIt, aIt, aIt], [], gwO, [(314, 44, 47)])
def gwT (u : Nat) : List aCt := [w1c, w2c] ++ ((List.range 8).map (fun c => hasc u c) ++ (List.range 8).filterMap (fun c => bif Nat.testBit u c then none else some (gwc (u ||| 2 ^ c))))
def gwN0 (u : Nat) : List aNd := [(108, [(0, aR [314]), (1, aI 0 7), (2, aI 0 7), (3, aI (Int.ofNat u) (Int.ofNat u)), (4, aIt), (5, aIt), (6, aIt), (7, aI 0 0)], [], 9, []),
  (29, [(0, aR [314]), (1, aI 0 7), (2, aI 0 7), (3, aI (Int.ofNat u) (Int.ofNat u)), (4, aIt), (5, aIt), (6, aIt), (7, aI 0 1)], [], 2, []),
  (108, [(0, aR [314]), (1, aI 0 7), (2, aI 0 7), (3, aI (Int.ofNat u) (Int.ofNat u)), (4, aIt), (5, aIt), (6, aIt), (7, aI 1 1)], [(314, 25, 1, 8)], 8, []),
  (80, [(0, aR [314]), (1, aI 0 7), (2, aI 0 7), (3, aI (Int.ofNat u) (Int.ofNat u)), (4, aIt), (5, aIt), (6, aIt), (7, aI 0 1)], [], 1, []),
  (108, [(0, aR [314]), (1, aI 0 7), (2, aI 0 7), (3, aI (Int.ofNat u) (Int.ofNat u)), (4, aIt), (5, aIt), (6, aIt), (7, aI 2 2)], [(314, 25, 2, 8)], 7, []),
  (108, [(0, aR [314]), (1, aI 0 7), (2, aI 0 7), (3, aI (Int.ofNat u) (Int.ofNat u)), (4, aIt), (5, aIt), (6, aIt), (7, aI 3 3)], [(314, 25, 3, 8)], 6, []),
  (108, [(0, aR [314]), (1, aI 0 7), (2, aI 0 7), (3, aI (Int.ofNat u) (Int.ofNat u)), (4, aIt), (5, aIt), (6, aIt), (7, aI 4 4)], [(314, 25, 4, 8)], 5, []),
  (108, [(0, aR [314]), (1, aI 0 7), (2, aI 0 7), (3, aI (Int.ofNat u) (Int.ofNat u)), (4, aIt), (5, aIt), (6, aIt), (7, aI 5 5)], [(314, 25, 5, 8)], 4, []),
  (108, [(0, aR [314]), (1, aI 0 7), (2, aI 0 7), (3, aI (Int.ofNat u) (Int.ofNat u)), (4, aIt), (5, aIt), (6, aIt), (7, aI 6 6)], [(314, 25, 6, 8)], 3, []),
  (108, [(0, aR [314]), (1, aI 0 7), (2, aI 0 7), (3, aI (Int.ofNat u) (Int.ofNat u)), (4, aIt), (5, aIt), (6, aIt), (7, aI 7 7)], [(314, 25, 7, 8)], 2, []),
  (108, [(0, aR [314]), (1, aI 0 7), (2, aI 0 7), (3, aI (Int.ofNat u) (Int.ofNat u)), (4, aIt), (5, aIt), (6, aIt), (7, aI 8 8)], [(314, 25, 8, 8)], 1, [])]
noncomputable def gwwp (u : Nat) : Bool := chkWF tS tR 55 (gwT u) (gwc u) [(108, 7)] (gwN0 u) []
set_option maxRecDepth 100000 in
theorem gww_0 : (List.range 16).all (fun q => Nat.ble 256 (16 * 0 + q) || gwwp (16 * 0 + q)) = true := by decide +kernel
set_option maxRecDepth 100000 in
theorem gww_1 : (List.range 16).all (fun q => Nat.ble 256 (16 * 1 + q) || gwwp (16 * 1 + q)) = true := by decide +kernel
set_option maxRecDepth 100000 in
theorem gww_2 : (List.range 16).all (fun q => Nat.ble 256 (16 * 2 + q) || gwwp (16 * 2 + q)) = true := by decide +kernel
set_option maxRecDepth 100000 in
theorem gww_3 : (List.range 16).all (fun q => Nat.ble 256 (16 * 3 + q) || gwwp (16 * 3 + q)) = true := by decide +kernel
set_option maxRecDepth 100000 in
theorem gww_4 : (List.range 16).all (fun q => Nat.ble 256 (16 * 4 + q) || gwwp (16 * 4 + q)) = true := by decide +kernel
set_option maxRecDepth 100000 in
theorem gww_5 : (List.range 16).all (fun q => Nat.ble 256 (16 * 5 + q) || gwwp (16 * 5 + q)) = true := by decide +kernel
set_option maxRecDepth 100000 in
theorem gww_6 : (List.range 16).all (fun q => Nat.ble 256 (16 * 6 + q) || gwwp (16 * 6 + q)) = true := by decide +kernel
set_option maxRecDepth 100000 in
theorem gww_7 : (List.range 16).all (fun q => Nat.ble 256 (16 * 7 + q) || gwwp (16 * 7 + q)) = true := by decide +kernel
set_option maxRecDepth 100000 in
theorem gww_8 : (List.range 16).all (fun q => Nat.ble 256 (16 * 8 + q) || gwwp (16 * 8 + q)) = true := by decide +kernel
set_option maxRecDepth 100000 in
theorem gww_9 : (List.range 16).all (fun q => Nat.ble 256 (16 * 9 + q) || gwwp (16 * 9 + q)) = true := by decide +kernel
set_option maxRecDepth 100000 in
theorem gww_10 : (List.range 16).all (fun q => Nat.ble 256 (16 * 10 + q) || gwwp (16 * 10 + q)) = true := by decide +kernel
set_option maxRecDepth 100000 in
theorem gww_11 : (List.range 16).all (fun q => Nat.ble 256 (16 * 11 + q) || gwwp (16 * 11 + q)) = true := by decide +kernel
set_option maxRecDepth 100000 in
theorem gww_12 : (List.range 16).all (fun q => Nat.ble 256 (16 * 12 + q) || gwwp (16 * 12 + q)) = true := by decide +kernel
set_option maxRecDepth 100000 in
theorem gww_13 : (List.range 16).all (fun q => Nat.ble 256 (16 * 13 + q) || gwwp (16 * 13 + q)) = true := by decide +kernel
set_option maxRecDepth 100000 in
theorem gww_14 : (List.range 16).all (fun q => Nat.ble 256 (16 * 14 + q) || gwwp (16 * 14 + q)) = true := by decide +kernel
set_option maxRecDepth 100000 in
theorem gww_15 : (List.range 16).all (fun q => Nat.ble 256 (16 * 15 + q) || gwwp (16 * 15 + q)) = true := by decide +kernel
theorem gww : ∀ u, u < 256 → chkW tS tR 55 (gwT u) (gwc u) [(108, 7)] (gwN0 u) [] = true := fun u hu => chkW_F (rng_k (p := gwwp) (n := 16) (s := 16) (fun k hk => match k, hk with
  | 0, _ => gww_0
  | 1, _ => gww_1
  | 2, _ => gww_2
  | 3, _ => gww_3
  | 4, _ => gww_4
  | 5, _ => gww_5
  | 6, _ => gww_6
  | 7, _ => gww_7
  | 8, _ => gww_8
  | 9, _ => gww_9
  | 10, _ => gww_10
  | 11, _ => gww_11
  | 12, _ => gww_12
  | 13, _ => gww_13
  | 14, _ => gww_14
  | 15, _ => gww_15
  | k + 16, h => absurd h (by omega)) (by decide) (by decide) u hu)
theorem gwl {u c : Nat} (hu : u < 256) (hc : c < 8) (h : Nat.testBit u c = false) : u < (u ||| 2 ^ c) ∧ (u ||| 2 ^ c) < 256 := by
  have h1 : (List.range 256).all (fun u => (List.range 8).all (fun c => (Nat.testBit u c) || (Nat.blt u (u ||| 2 ^ c) && Nat.blt (u ||| 2 ^ c) 256))) = true := by decide +kernel
  have h2 := rng_of (rng_of h1 u hu) c hc
  rw [h] at h2
  simpa using h2
theorem gw_all : ∀ n u, u < 256 → 255 < u + n → vC tS tR jM (3 + n) (gwc u) := by
  intro n
  induction n with
  | zero => exact fun u h1 h2 => absurd h2 (by omega)
  | succ n ih =>
    intro u hu hn
    refine chkW_ok (D := 3 + n) (fun t ht => ?_) (jM_st (c := (0, [], [], [], [(314, 44, 47)])) (by decide)) (gww u hu)
    rcases List.mem_append.mp ht with ht | ht
    · exact (fa_cons (vUq w1 (by omega)) (fa_cons (vUq w2 (by omega)) (fa_nil)) : ∀ t ∈ [w1c, w2c], vC tS tR jM (3 + n) t) t ht
    · rcases List.mem_append.mp ht with ht | ht
      · obtain ⟨c, hc, rfl⟩ := List.mem_map.mp ht
        exact vUq (has_k hu (List.mem_range.mp hc)) (by omega)
      · obtain ⟨c, hc, h⟩ := List.mem_filterMap.mp ht
        have hc := List.mem_range.mp hc
        cases e : Nat.testBit u c with
        | true =>
          rw [e] at h
          cases h
        | false =>
          rw [e] at h
          cases h
          have hl := gwl hu hc e
          exact ih _ (by omega) (by omega)
def gwg : aCt := (227, [aR [314], aI 0 7, aI 0 7, aI 0 255, aIt, aIt, aIt], [], gwO, [(314, 44, 47)])
theorem gw_ok : vC tS tR jM 259 gwg := by
  intro d hd m vs P hI hj hv hF hP
  match vs, hv with
  | [v0, v1, v2, v3, v4, v5, v6], hv =>
    obtain ⟨z, hz, h1, -⟩ := aH_int hv.2.2.2.1 rfl
    have h1 : (0 : Int) ≤ z.toInt ∧ z.toInt ≤ 255 := h1
    refine gw_all 256 z.toInt.toNat (by omega) (by omega) d (by omega) m _ P hI hj ?_ hF hP
    exact ⟨hv.1, hv.2.1, hv.2.2.1, Or.inr (Or.inl ⟨rfl, z, hz, ⟨by show (z.toInt.toNat : Int) ≤ z.toInt; omega, by show z.toInt ≤ (z.toInt.toNat : Int); omega⟩, trivial⟩), hv.2.2.2.2.1, hv.2.2.2.2.2.1, hv.2.2.2.2.2.2.1, trivial⟩
  | [], hv => exact hv.elim
  | [_], hv => exact hv.2.elim
  | [_, _], hv => exact hv.2.2.elim
  | [_, _, _], hv => exact hv.2.2.2.elim
  | [_, _, _, _], hv => exact hv.2.2.2.2.elim
  | [_, _, _, _, _], hv => exact hv.2.2.2.2.2.elim
  | [_, _, _, _, _, _], hv => exact hv.2.2.2.2.2.2.elim
  | _ :: _ :: _ :: _ :: _ :: _ :: _ :: _ :: _, hv => exact hv.2.2.2.2.2.2.2.elim
def gfO : List (Option aV × List (Int × Int) × aFs) := [(none, [(lLo, lHi), (lLo, lHi), (lLo, lHi), (lLo, lHi), (lLo, lHi)], [])]
def gfc (u : Nat) : aCt := (229, [aR [314], aI 0 7, aI (Int.ofNat u) (Int.ofNat u), aIt, aIt], [], gfO, [(314, 48, 50)])
def gfT (u : Nat) : List aCt := [w3c, w2c] ++ ((List.range 8).map (fun c => hasc u c) ++ (List.range 8).filterMap (fun c => bif Nat.testBit u c then some (gfc (u - 2 ^ c)) else none))
def gfN0 (u : Nat) : List aNd := [(69, [(0, aR [314]), (1, aI 0 7), (2, aI (Int.ofNat u) (Int.ofNat u)), (3, aIt), (4, aIt), (5, aI 0 0)], [], 9, []),
  (69, [(0, aR [314]), (1, aI 0 7), (2, aI (Int.ofNat u) (Int.ofNat u)), (3, aIt), (4, aIt), (5, aI 1 1)], [(314, 25, 1, 8)], 8, []),
  (69, [(0, aR [314]), (1, aI 0 7), (2, aI (Int.ofNat u) (Int.ofNat u)), (3, aIt), (4, aIt), (5, aI 2 2)], [(314, 25, 2, 8)], 7, []),
  (69, [(0, aR [314]), (1, aI 0 7), (2, aI (Int.ofNat u) (Int.ofNat u)), (3, aIt), (4, aIt), (5, aI 3 3)], [(314, 25, 3, 8)], 6, []),
  (69, [(0, aR [314]), (1, aI 0 7), (2, aI (Int.ofNat u) (Int.ofNat u)), (3, aIt), (4, aIt), (5, aI 4 4)], [(314, 25, 4, 8)], 5, []),
  (69, [(0, aR [314]), (1, aI 0 7), (2, aI (Int.ofNat u) (Int.ofNat u)), (3, aIt), (4, aIt), (5, aI 5 5)], [(314, 25, 5, 8)], 4, []),
  (69, [(0, aR [314]), (1, aI 0 7), (2, aI (Int.ofNat u) (Int.ofNat u)), (3, aIt), (4, aIt), (5, aI 6 6)], [(314, 25, 6, 8)], 3, []),
  (69, [(0, aR [314]), (1, aI 0 7), (2, aI (Int.ofNat u) (Int.ofNat u)), (3, aIt), (4, aIt), (5, aI 7 7)], [(314, 25, 7, 8)], 2, []),
  (69, [(0, aR [314]), (1, aI 0 7), (2, aI (Int.ofNat u) (Int.ofNat u)), (3, aIt), (4, aIt), (5, aI 8 8)], [(314, 25, 8, 8)], 1, [])]
noncomputable def gfwp (u : Nat) : Bool := chkWF tS tR 47 (gfT u) (gfc u) [(69, 5)] (gfN0 u) []
set_option maxRecDepth 100000 in
theorem gfw_0 : (List.range 16).all (fun q => Nat.ble 256 (16 * 0 + q) || gfwp (16 * 0 + q)) = true := by decide +kernel
set_option maxRecDepth 100000 in
theorem gfw_1 : (List.range 16).all (fun q => Nat.ble 256 (16 * 1 + q) || gfwp (16 * 1 + q)) = true := by decide +kernel
set_option maxRecDepth 100000 in
theorem gfw_2 : (List.range 16).all (fun q => Nat.ble 256 (16 * 2 + q) || gfwp (16 * 2 + q)) = true := by decide +kernel
set_option maxRecDepth 100000 in
theorem gfw_3 : (List.range 16).all (fun q => Nat.ble 256 (16 * 3 + q) || gfwp (16 * 3 + q)) = true := by decide +kernel
set_option maxRecDepth 100000 in
theorem gfw_4 : (List.range 16).all (fun q => Nat.ble 256 (16 * 4 + q) || gfwp (16 * 4 + q)) = true := by decide +kernel
set_option maxRecDepth 100000 in
theorem gfw_5 : (List.range 16).all (fun q => Nat.ble 256 (16 * 5 + q) || gfwp (16 * 5 + q)) = true := by decide +kernel
set_option maxRecDepth 100000 in
theorem gfw_6 : (List.range 16).all (fun q => Nat.ble 256 (16 * 6 + q) || gfwp (16 * 6 + q)) = true := by decide +kernel
set_option maxRecDepth 100000 in
theorem gfw_7 : (List.range 16).all (fun q => Nat.ble 256 (16 * 7 + q) || gfwp (16 * 7 + q)) = true := by decide +kernel
set_option maxRecDepth 100000 in
theorem gfw_8 : (List.range 16).all (fun q => Nat.ble 256 (16 * 8 + q) || gfwp (16 * 8 + q)) = true := by decide +kernel
set_option maxRecDepth 100000 in
theorem gfw_9 : (List.range 16).all (fun q => Nat.ble 256 (16 * 9 + q) || gfwp (16 * 9 + q)) = true := by decide +kernel
set_option maxRecDepth 100000 in
theorem gfw_10 : (List.range 16).all (fun q => Nat.ble 256 (16 * 10 + q) || gfwp (16 * 10 + q)) = true := by decide +kernel
set_option maxRecDepth 100000 in
theorem gfw_11 : (List.range 16).all (fun q => Nat.ble 256 (16 * 11 + q) || gfwp (16 * 11 + q)) = true := by decide +kernel
set_option maxRecDepth 100000 in
theorem gfw_12 : (List.range 16).all (fun q => Nat.ble 256 (16 * 12 + q) || gfwp (16 * 12 + q)) = true := by decide +kernel
set_option maxRecDepth 100000 in
theorem gfw_13 : (List.range 16).all (fun q => Nat.ble 256 (16 * 13 + q) || gfwp (16 * 13 + q)) = true := by decide +kernel
set_option maxRecDepth 100000 in
theorem gfw_14 : (List.range 16).all (fun q => Nat.ble 256 (16 * 14 + q) || gfwp (16 * 14 + q)) = true := by decide +kernel
set_option maxRecDepth 100000 in
theorem gfw_15 : (List.range 16).all (fun q => Nat.ble 256 (16 * 15 + q) || gfwp (16 * 15 + q)) = true := by decide +kernel
theorem gfw : ∀ u, u < 256 → chkW tS tR 47 (gfT u) (gfc u) [(69, 5)] (gfN0 u) [] = true := fun u hu => chkW_F (rng_k (p := gfwp) (n := 16) (s := 16) (fun k hk => match k, hk with
  | 0, _ => gfw_0
  | 1, _ => gfw_1
  | 2, _ => gfw_2
  | 3, _ => gfw_3
  | 4, _ => gfw_4
  | 5, _ => gfw_5
  | 6, _ => gfw_6
  | 7, _ => gfw_7
  | 8, _ => gfw_8
  | 9, _ => gfw_9
  | 10, _ => gfw_10
  | 11, _ => gfw_11
  | 12, _ => gfw_12
  | 13, _ => gfw_13
  | 14, _ => gfw_14
  | 15, _ => gfw_15
  | k + 16, h => absurd h (by omega)) (by decide) (by decide) u hu)
theorem gfl {u c : Nat} (hu : u < 256) (hc : c < 8) (h : Nat.testBit u c = true) : u - 2 ^ c < u := by
  have h1 : (List.range 256).all (fun u => (List.range 8).all (fun c => (!Nat.testBit u c) || Nat.blt (u - 2 ^ c) u)) = true := by decide +kernel
  have h2 := rng_of (rng_of h1 u hu) c hc
  rw [h] at h2
  simpa using h2
theorem gf_all : ∀ n u, u < 256 → u < n → vC tS tR jM (3 + n) (gfc u) := by
  intro n
  induction n with
  | zero => exact fun u h1 h2 => absurd h2 (by omega)
  | succ n ih =>
    intro u hu hn
    refine chkW_ok (D := 3 + n) (fun t ht => ?_) (jM_st (c := (0, [], [], [], [(314, 48, 50)])) (by decide)) (gfw u hu)
    rcases List.mem_append.mp ht with ht | ht
    · exact (fa_cons (vUq w3 (by omega)) (fa_cons (vUq w2 (by omega)) (fa_nil)) : ∀ t ∈ [w3c, w2c], vC tS tR jM (3 + n) t) t ht
    · rcases List.mem_append.mp ht with ht | ht
      · obtain ⟨c, hc, rfl⟩ := List.mem_map.mp ht
        exact vUq (has_k hu (List.mem_range.mp hc)) (by omega)
      · obtain ⟨c, hc, h⟩ := List.mem_filterMap.mp ht
        have hc := List.mem_range.mp hc
        cases e : Nat.testBit u c with
        | false =>
          rw [e] at h
          cases h
        | true =>
          rw [e] at h
          cases h
          have hl := gfl hu hc e
          exact ih _ (by omega) (by omega)
def gfg : aCt := (229, [aR [314], aI 0 7, aI 0 255, aIt, aIt], [], gfO, [(314, 48, 50)])
theorem gf_ok : vC tS tR jM 259 gfg := by
  intro d hd m vs P hI hj hv hF hP
  match vs, hv with
  | [v0, v1, v2, v3, v4], hv =>
    obtain ⟨z, hz, h1, -⟩ := aH_int hv.2.2.1 rfl
    have h1 : (0 : Int) ≤ z.toInt ∧ z.toInt ≤ 255 := h1
    refine gf_all 256 z.toInt.toNat (by omega) (by omega) d (by omega) m _ P hI hj ?_ hF hP
    exact ⟨hv.1, hv.2.1, Or.inr (Or.inl ⟨rfl, z, hz, ⟨by show (z.toInt.toNat : Int) ≤ z.toInt; omega, by show z.toInt ≤ (z.toInt.toNat : Int); omega⟩, trivial⟩), hv.2.2.2.1, hv.2.2.2.2.1, trivial⟩
  | [], hv => exact hv.elim
  | [_], hv => exact hv.2.elim
  | [_, _], hv => exact hv.2.2.elim
  | [_, _, _], hv => exact hv.2.2.2.elim
  | [_, _, _, _], hv => exact hv.2.2.2.2.elim
  | _ :: _ :: _ :: _ :: _ :: _ :: _, hv => exact hv.2.2.2.2.2.elim
end WAY
