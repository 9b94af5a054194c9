/-! L2: the parser of the reference, thruB -/
/-- goThrough, text B -/
def gtBc : aCt := (178, [aR [314], aR [316], aI 0 720, aI 0 240], [], [(none, [], [])], [(314, 8, 15), (314, 17, 18)])
def gtBT (u : Nat) : List aCt := [fB5c (u + 1), fB3c (u + 0), fB5c (u + 0), fB0c (u + 0), fB1c (u + 0)]
def gtBN0 (u : Nat) : List aNd := [(7, [(0, aR [314])], [(314, 10, Int.ofNat u, Int.ofNat u), (314, 11, (-1), (-1))], 2, [])]
def gtBX (u : Nat) : List aNd := [(32, [(0, aR [314])], [(314, 10, Int.ofNat u, 241), (314, 13, 121, 121)], 0, [])]
def gtBN (u : Nat) : List aNd := []
noncomputable def gtBup (u : Nat) : Bool := chkUF tS tRB 27 (gtBT u) (178, [aR [314], aR [316], aI 0 720, aI 0 240], [], [(none, [], [])], [(314, 8, 15), (314, 17, 18)]) (178, [aR [314], aR [316], aI 0 720, aI 0 240], [], [(none, [], [])], [(314, 8, 15), (314, 17, 18)]) [] none u (gtBN u) (gtBX u) (gtBX (u + 1))
set_option maxRecDepth 100000 in
theorem gtBu_0 : (List.range 24).all (fun q => Nat.ble 242 (24 * 0 + q) || gtBup (24 * 0 + q)) = true := by decide +kernel
set_option maxRecDepth 100000 in
theorem gtBu_1 : (List.range 24).all (fun q => Nat.ble 242 (24 * 1 + q) || gtBup (24 * 1 + q)) = true := by decide +kernel
set_option maxRecDepth 100000 in
theorem gtBu_2 : (List.range 24).all (fun q => Nat.ble 242 (24 * 2 + q) || gtBup (24 * 2 + q)) = true := by decide +kernel
set_option maxRecDepth 100000 in
theorem gtBu_3 : (List.range 24).all (fun q => Nat.ble 242 (24 * 3 + q) || gtBup (24 * 3 + q)) = true := by decide +kernel
set_option maxRecDepth 100000 in
theorem gtBu_4 : (List.range 24).all (fun q => Nat.ble 242 (24 * 4 + q) || gtBup (24 * 4 + q)) = true := by decide +kernel
set_option maxRecDepth 100000 in
theorem gtBu_5 : (List.range 24).all (fun q => Nat.ble 242 (24 * 5 + q) || gtBup (24 * 5 + q)) = true := by decide +kernel
set_option maxRecDepth 100000 in
theorem gtBu_6 : (List.range 24).all (fun q => Nat.ble 242 (24 * 6 + q) || gtBup (24 * 6 + q)) = true := by decide +kernel
set_option maxRecDepth 100000 in
theorem gtBu_7 : (List.range 24).all (fun q => Nat.ble 242 (24 * 7 + q) || gtBup (24 * 7 + q)) = true := by decide +kernel
set_option maxRecDepth 100000 in
theorem gtBu_8 : (List.range 24).all (fun q => Nat.ble 242 (24 * 8 + q) || gtBup (24 * 8 + q)) = true := by decide +kernel
set_option maxRecDepth 100000 in
theorem gtBu_9 : (List.range 24).all (fun q => Nat.ble 242 (24 * 9 + q) || gtBup (24 * 9 + q)) = true := by decide +kernel
set_option maxRecDepth 100000 in
theorem gtBu_10 : (List.range 24).all (fun q => Nat.ble 242 (24 * 10 + q) || gtBup (24 * 10 + q)) = true := by decide +kernel
theorem gtBu : ∀ u, u < 242 → chkU tS tRB 27 (gtBT u) (178, [aR [314], aR [316], aI 0 720, aI 0 240], [], [(none, [], [])], [(314, 8, 15), (314, 17, 18)]) (178, [aR [314], aR [316], aI 0 720, aI 0 240], [], [(none, [], [])], [(314, 8, 15), (314, 17, 18)]) [] none u (gtBN u) (gtBX u) (gtBX (u + 1)) = true := fun u hu => chkU_F (rng_k (p := gtBup) (n := 11) (s := 24) (fun k hk => match k, hk with
  | 0, _ => gtBu_0
  | 1, _ => gtBu_1
  | 2, _ => gtBu_2
  | 3, _ => gtBu_3
  | 4, _ => gtBu_4
  | 5, _ => gtBu_5
  | 6, _ => gtBu_6
  | 7, _ => gtBu_7
  | 8, _ => gtBu_8
  | 9, _ => gtBu_9
  | 10, _ => gtBu_10
  | k + 11, h => absurd h (by omega)) (by decide) (by decide) u hu)
set_option maxRecDepth 100000 in
theorem gtBn : ((gtBN0 0 ++ gtBX 0).all wfN && (gtBN0 0).all (chkR tS tRB 27 (gtBT 0) (178, [aR [314], aR [316], aI 0 720, aI 0 240], [], [(none, [], [])], [(314, 8, 15), (314, 17, 18)]) [] (gtBN0 0 ++ gtBX 0))) = true := by
  rw [← chkRF_eq]
  decide +kernel
theorem gtBh (u : Nat) : ∀ c ∈ gtBT u, vC tS (tRx 316) jM 801 c := fa_cons (vUq (fB5 (u + 1)) (by decide)) (fa_cons (vUq (fB3 (u + 0)) (by decide)) (fa_cons (vUq (fB5 (u + 0)) (by decide)) (fa_cons (vUq (fB0 (u + 0)) (by decide)) (fa_cons (vUq (fB1 (u + 0)) (by decide)) (fa_nil)))))
theorem gtB : vC tS tR jM 804 gtBc := by
  intro d hd m vs P hI hj hv hF hP
  obtain ⟨d, rfl⟩ : ∃ e, d = e + 2 := ⟨d - 2, by omega⟩
  have hv0 := hv
  match vs, hv with
  | [v0, v1, v2, v3], hv =>
    obtain ⟨b0, rfl, h0⟩ := aH_ref hv.1 rfl
    obtain ⟨b1, rfl, h1⟩ := aH_ref hv.2.1 rfl
    obtain ⟨f, rfl, h2, -⟩ := aH_int hv.2.2.1 rfl
    obtain ⟨n, rfl, h3, -⟩ := aH_int hv.2.2.2.1 rfl
    obtain rfl : b0 = 314 := List.mem_singleton.mp h0
    obtain rfl : b1 = 316 := List.mem_singleton.mp h1
    have h2 : (0 : Int) ≤ f.toInt ∧ f.toInt ≤ 720 := h2
    have h3 : (0 : Int) ≤ n.toInt ∧ n.toInt ≤ 240 := h3
    have hN := gtBn
    rw [Bool.and_eq_true] at hN
    have hst : ∀ m0 m, gM m0 [(314, 8, 15), (314, 17, 18)] m → jM m0 → jM m := jM_st (c := (0, [], [], [], [(314, 8, 15), (314, 17, 18)])) (by decide)
    obtain ⟨K, hK⟩ := rest_ok (b := 316) (k := 178) (D := 801) (nd := (7, [(0, aR [314])], [(314, 10, Int.ofNat 0, Int.ofNat 0), (314, 11, (-1), (-1))], 2, [])) (gtBh 0) (by decide) (by decide) (fun d hd m0 vs P hj hv hP => famX (m0 := m0) (w := 0) (U := 242) (Fu := fun _ => []) (Ou := fun _ => [(none, [], [])]) (Tu := gtBT) (fun u _ _ => gtBh u) hd (fun m' hm => hst m0 m' hm hj) hv (fun u _ hu => gtBu u hu) (by decide +kernel) 242 0 (by omega) (by omega) P hP) hN.1 hN.2 List.mem_cons_self (d := d + 1) (by omega) hI hj hv0 (f := f) (n := n) (by omega) h3 (gF_all (fun p hp => by
      simp only [List.mem_cons, List.not_mem_nil, or_false] at hp
      rcases hp with rfl | rfl
      · rw [st_10]; exact ⟨by decide, by decide⟩
      · rw [st_11]; exact ⟨by decide, by decide⟩)) hP
    refine ⟨rfl, rfl, (by show 4 ≤ 4; decide), K + 6, ?_⟩
    refine s_ald rfl rfl ?_
    refine s_ald rfl rfl ?_
    refine s_ild rfl rfl ?_
    refine s_ild rfl rfl ?_
    refine s_iv (j := 177) rfl rfl rfl rfl (by decide) rfl rfl ?_
    exact starts_ok (hK _ (by omega) _ (gL_M rfl))
  | [], hv => exact hv.elim
  | [_], hv => exact hv.2.elim
  | [_, _], hv => exact hv.2.2.elim
  | [_, _, _], hv => exact hv.2.2.2.elim
  | _ :: _ :: _ :: _ :: _ :: _, hv => exact hv.2.2.2.2.elim
