/-! L2: the parser of the reference, thruA -/
/-- goThrough, text A -/
def gtAc : aCt := (178, [aR [314], aR [315], aI 0 0, aI 0 240], [], [(none, [], [])], [(314, 8, 15), (314, 17, 18)])
def gtAT (u : Nat) : List aCt := [fA5c (u + 1), fA3c (u + 0), fA5c (u + 0), fA0c (u + 0), fA1c (u + 0)]
def gtAN0 (u : Nat) : List aNd := [(7, [(0, aR [314])], [(314, 10, Int.ofNat u, Int.ofNat u), (314, 11, (-1), (-1)), (314, 8, 0, 0)], 2, [])]
def gtAX (u : Nat) : List aNd := [(32, [(0, aR [314])], [(314, 10, Int.ofNat u, 241), (314, 8, 0, 0), (314, 13, 121, 121)], 0, [])]
def gtAN (u : Nat) : List aNd := []
noncomputable def gtAup (u : Nat) : Bool := chkUF tS tRA 27 (gtAT u) (178, [aR [314], aR [315], aI 0 0, aI 0 240], [], [(none, [], [])], [(314, 8, 15), (314, 17, 18)]) (178, [aR [314], aR [315], aI 0 0, aI 0 240], [], [(none, [], [])], [(314, 8, 15), (314, 17, 18)]) [] none u (gtAN u) (gtAX u) (gtAX (u + 1))
set_option maxRecDepth 100000 in
theorem gtAu_0 : (List.range 24).all (fun q => Nat.ble 242 (24 * 0 + q) || gtAup (24 * 0 + q)) = true := by decide +kernel
set_option maxRecDepth 100000 in
theorem gtAu_1 : (List.range 24).all (fun q => Nat.ble 242 (24 * 1 + q) || gtAup (24 * 1 + q)) = true := by decide +kernel
set_option maxRecDepth 100000 in
theorem gtAu_2 : (List.range 24).all (fun q => Nat.ble 242 (24 * 2 + q) || gtAup (24 * 2 + q)) = true := by decide +kernel
set_option maxRecDepth 100000 in
theorem gtAu_3 : (List.range 24).all (fun q => Nat.ble 242 (24 * 3 + q) || gtAup (24 * 3 + q)) = true := by decide +kernel
set_option maxRecDepth 100000 in
theorem gtAu_4 : (List.range 24).all (fun q => Nat.ble 242 (24 * 4 + q) || gtAup (24 * 4 + q)) = true := by decide +kernel
set_option maxRecDepth 100000 in
theorem gtAu_5 : (List.range 24).all (fun q => Nat.ble 242 (24 * 5 + q) || gtAup (24 * 5 + q)) = true := by decide +kernel
set_option maxRecDepth 100000 in
theorem gtAu_6 : (List.range 24).all (fun q => Nat.ble 242 (24 * 6 + q) || gtAup (24 * 6 + q)) = true := by decide +kernel
set_option maxRecDepth 100000 in
theorem gtAu_7 : (List.range 24).all (fun q => Nat.ble 242 (24 * 7 + q) || gtAup (24 * 7 + q)) = true := by decide +kernel
set_option maxRecDepth 100000 in
theorem gtAu_8 : (List.range 24).all (fun q => Nat.ble 242 (24 * 8 + q) || gtAup (24 * 8 + q)) = true := by decide +kernel
set_option maxRecDepth 100000 in
theorem gtAu_9 : (List.range 24).all (fun q => Nat.ble 242 (24 * 9 + q) || gtAup (24 * 9 + q)) = true := by decide +kernel
set_option maxRecDepth 100000 in
theorem gtAu_10 : (List.range 24).all (fun q => Nat.ble 242 (24 * 10 + q) || gtAup (24 * 10 + q)) = true := by decide +kernel
theorem gtAu : ∀ u, u < 242 → chkU tS tRA 27 (gtAT u) (178, [aR [314], aR [315], aI 0 0, aI 0 240], [], [(none, [], [])], [(314, 8, 15), (314, 17, 18)]) (178, [aR [314], aR [315], aI 0 0, aI 0 240], [], [(none, [], [])], [(314, 8, 15), (314, 17, 18)]) [] none u (gtAN u) (gtAX u) (gtAX (u + 1)) = true := fun u hu => chkU_F (rng_k (p := gtAup) (n := 11) (s := 24) (fun k hk => match k, hk with
  | 0, _ => gtAu_0
  | 1, _ => gtAu_1
  | 2, _ => gtAu_2
  | 3, _ => gtAu_3
  | 4, _ => gtAu_4
  | 5, _ => gtAu_5
  | 6, _ => gtAu_6
  | 7, _ => gtAu_7
  | 8, _ => gtAu_8
  | 9, _ => gtAu_9
  | 10, _ => gtAu_10
  | k + 11, h => absurd h (by omega)) (by decide) (by decide) u hu)
set_option maxRecDepth 100000 in
theorem gtAn : ((gtAN0 0 ++ gtAX 0).all wfN && (gtAN0 0).all (chkR tS tRA 27 (gtAT 0) (178, [aR [314], aR [315], aI 0 0, aI 0 240], [], [(none, [], [])], [(314, 8, 15), (314, 17, 18)]) [] (gtAN0 0 ++ gtAX 0))) = true := by
  rw [← chkRF_eq]
  decide +kernel
theorem gtAh (u : Nat) : ∀ c ∈ gtAT u, vC tS (tRx 315) jM 801 c := fa_cons (vUq (fA5 (u + 1)) (by decide)) (fa_cons (vUq (fA3 (u + 0)) (by decide)) (fa_cons (vUq (fA5 (u + 0)) (by decide)) (fa_cons (vUq (fA0 (u + 0)) (by decide)) (fa_cons (vUq (fA1 (u + 0)) (by decide)) (fa_nil)))))
theorem gtA : vC tS tR jM 804 gtAc := by
  intro d hd m vs P hI hj hv hF hP
  obtain ⟨d, rfl⟩ : ∃ e, d = e + 2 := ⟨d - 2, by omega⟩
  have hv0 := hv
  match vs, hv with
  | [v0, v1, v2, v3], hv =>
    obtain ⟨b0, rfl, h0⟩ := aH_ref hv.1 rfl
    obtain ⟨b1, rfl, h1⟩ := aH_ref hv.2.1 rfl
    obtain ⟨f, rfl, h2, -⟩ := aH_int hv.2.2.1 rfl
    obtain ⟨n, rfl, h3, -⟩ := aH_int hv.2.2.2.1 rfl
    obtain rfl : b0 = 314 := List.mem_singleton.mp h0
    obtain rfl : b1 = 315 := List.mem_singleton.mp h1
    have h2 : (0 : Int) ≤ f.toInt ∧ f.toInt ≤ 0 := h2
    have h3 : (0 : Int) ≤ n.toInt ∧ n.toInt ≤ 240 := h3
    have hN := gtAn
    rw [Bool.and_eq_true] at hN
    have hst : ∀ m0 m, gM m0 [(314, 8, 15), (314, 17, 18)] m → jM m0 → jM m := jM_st (c := (0, [], [], [], [(314, 8, 15), (314, 17, 18)])) (by decide)
    obtain ⟨K, hK⟩ := rest_ok (b := 315) (k := 178) (D := 801) (nd := (7, [(0, aR [314])], [(314, 10, Int.ofNat 0, Int.ofNat 0), (314, 11, (-1), (-1)), (314, 8, 0, 0)], 2, [])) (gtAh 0) (by decide) (by decide) (fun d hd m0 vs P hj hv hP => famX (m0 := m0) (w := 0) (U := 242) (Fu := fun _ => []) (Ou := fun _ => [(none, [], [])]) (Tu := gtAT) (fun u _ _ => gtAh u) hd (fun m' hm => hst m0 m' hm hj) hv (fun u _ hu => gtAu u hu) (by decide +kernel) 242 0 (by omega) (by omega) P hP) hN.1 hN.2 List.mem_cons_self (d := d + 1) (by omega) hI hj hv0 (f := f) (n := n) (by omega) h3 (gF_all (fun p hp => by
      simp only [List.mem_cons, List.not_mem_nil, or_false] at hp
      rcases hp with rfl | rfl | rfl
      · rw [st_10]; exact ⟨by decide, by decide⟩
      · rw [st_11]; exact ⟨by decide, by decide⟩
      · rw [st_8]; exact ⟨by show (0 : Int) ≤ _; omega, by show _ ≤ (0 : Int); omega⟩)) hP
    refine ⟨rfl, rfl, (by show 4 ≤ 4; decide), K + 6, ?_⟩
    refine s_ald rfl rfl ?_
    refine s_ald rfl rfl ?_
    refine s_ild rfl rfl ?_
    refine s_ild rfl rfl ?_
    refine s_iv (j := 177) rfl rfl rfl rfl (by decide) rfl rfl ?_
    exact starts_ok (hK _ (by omega) _ (gL_M rfl))
  | [], hv => exact hv.elim
  | [_], hv => exact hv.2.elim
  | [_, _], hv => exact hv.2.2.elim
  | [_, _, _], hv => exact hv.2.2.2.elim
  | _ :: _ :: _ :: _ :: _ :: _, hv => exact hv.2.2.2.2.elim
