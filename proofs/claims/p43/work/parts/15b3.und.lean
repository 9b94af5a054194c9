/-! L2: remember and undo -/
theorem rmk_l {s0 : Nat → Int} {l : List (Nat × Value)} (h : gL s0 l [(0, aR [314]), (1, aI 0 0)]) : lkl 0 l = some (.ref 314) ∧ lkl 1 l = some (.int (nI 0)) := by
  obtain ⟨x, e, h1⟩ := h 0 (aR [314]) lkA_h
  obtain ⟨b, rfl, hb⟩ := aH_ref h1 rfl
  obtain ⟨y, e2, h2⟩ := h 1 (aI 0 0) (by rw [lkA_t (by decide)]; exact lkA_h)
  obtain ⟨z, rfl, hz, -⟩ := aH_int h2 rfl
  have hz : (0 : Int) ≤ z.toInt ∧ z.toInt ≤ 0 := hz
  obtain rfl : b = 314 := List.mem_singleton.mp hb
  obtain rfl : z = nI 0 := Int32.toInt_inj.mp (by rw [nI_toInt (by omega)]; omega)
  exact ⟨e, e2⟩
theorem wm1_2 {p q : Nat × Nat × Nat} {a i : Nat} (h : wm1 [p, q] a i = false) : ¬ (q.1 = a ∧ q.2.1 ≤ i ∧ i < q.2.2) := (wm1_c.mp (wm1_c.mp h).2).1
theorem wm1_3 {p p2 q : Nat × Nat × Nat} {a i : Nat} (h : wm1 [p, p2, q] a i = false) : ¬ (q.1 = a ∧ q.2.1 ≤ i ∧ i < q.2.2) := (wm1_c.mp (wm1_c.mp (wm1_c.mp h).2).2).1
def remc : aCt := (210, [aR [314]], [], [(none, [(lLo, lHi)], [])], [(314, 42, 43), (331, 0, 8320)])
def undc : aCt := (220, [aR [314]], [], [(some (aI (-1) 39), [(lLo, lHi)], [])], [(314, 0, 1), (314, 42, 43), (326, 0, 208)])
theorem nd52 {m0 : xM} {d : Nat} {P : Option Value → xM → Prop} (h : nE tS tR m0 remc d P (86, [(0, aR [314])], [(314, 42, 0, 39)], 0, [])) : nE tS tR m0 remc d P (52, [(0, aR [314]), (1, aI 0 0)], [(314, 42, 0, 39)], 0, []) := by
  obtain ⟨K, hK⟩ := h
  refine ⟨18 * (208 + 1) + K, fun l m hg f hf => ?_⟩
  obtain ⟨hl0, hl1⟩ := rmk_l hg.2.2.1
  have ha : (0 : Int) ≤ (m.1 314 42).toInt ∧ (m.1 314 42).toInt ≤ 39 := hg.2.2.2 314 42 (0, 39) fct_h
  refine rem_b (A := (m.1 314 42).toInt.toNat) (C := K) (by omega) 208 0 (by omega) l m f hl0 hl1 hg.1 (by omega) (fun l' m' f' g0 g1 g2 g3 g4 => hK l' m' ⟨g2, fun a i hw => ?_, gL_M g0, gF_all (fun p hp => ?_)⟩ f' g4) (by omega)
  · rw [g3 a i (fun z => wm1_2 hw ⟨z.1.symm, Nat.zero_le _, by show i < 8320; exact z.2⟩)]
    exact hg.2.1 a i hw
  · rw [List.mem_singleton.mp hp]
    show (0 : Int) ≤ (m'.1 314 42).toInt ∧ (m'.1 314 42).toInt ≤ 39
    rw [g3 314 42 (fun z => absurd z.1 (by decide))]
    exact ha
theorem nd11 {m0 : xM} {d : Nat} {P : Option Value → xM → Prop} (h : nE tS tR m0 remc d P (40, [(0, aR [314])], [(314, 42, 40, 40)], 0, [])) : nE tS tR m0 remc d P (11, [(0, aR [314]), (1, aI 0 0)], [(314, 42, 40, 40)], 0, []) := by
  obtain ⟨K, hK⟩ := h
  refine ⟨15 * (8112 + 1) + K, fun l m hg f hf => ?_⟩
  obtain ⟨hl0, hl1⟩ := rmk_l hg.2.2.1
  have ha : (40 : Int) ≤ (m.1 314 42).toInt ∧ (m.1 314 42).toInt ≤ 40 := hg.2.2.2 314 42 (40, 40) fct_h
  refine rem_a (C := K) 8112 0 (by omega) l m f hl0 hl1 hg.1 (fun l' m' f' g0 g1 g2 g3 g4 => hK l' m' ⟨g2, fun a i hw => ?_, gL_M g0, gF_all (fun p hp => ?_)⟩ f' g4) (by omega)
  · rw [g3 a i (fun z => wm1_2 hw ⟨z.1.symm, Nat.zero_le _, by show i < 8320; exact z.2⟩)]
    exact hg.2.1 a i hw
  · rw [List.mem_singleton.mp hp]
    show (40 : Int) ≤ (m'.1 314 42).toInt ∧ (m'.1 314 42).toInt ≤ 40
    rw [g3 314 42 (fun z => absurd z.1 (by decide))]
    exact ha
theorem nd26 {m0 : xM} {d : Nat} {P : Option Value → xM → Prop} (h : nE tS tR m0 undc d P (60, [(0, aR [314])], [(314, 42, 0, 39)], 0, [])) : nE tS tR m0 undc d P (26, [(0, aR [314]), (1, aI 0 0)], [(314, 42, 0, 39)], 0, []) := by
  obtain ⟨K, hK⟩ := h
  refine ⟨18 * (208 + 1) + K, fun l m hg f hf => ?_⟩
  obtain ⟨hl0, hl1⟩ := rmk_l hg.2.2.1
  have ha : (0 : Int) ≤ (m.1 314 42).toInt ∧ (m.1 314 42).toInt ≤ 39 := hg.2.2.2 314 42 (0, 39) fct_h
  refine und_b (A := (m.1 314 42).toInt.toNat) (C := K) (by omega) 208 0 (by omega) l m f hl0 hl1 hg.1 (by omega) (fun l' m' f' g0 g1 g2 g3 g4 => hK l' m' ⟨g2, fun a i hw => ?_, gL_M g0, gF_all (fun p hp => ?_)⟩ f' g4) (by omega)
  · rw [g3 a i (fun z => wm1_3 hw ⟨z.1.symm, Nat.zero_le _, by show i < 208; exact z.2⟩)]
    exact hg.2.1 a i hw
  · rw [List.mem_singleton.mp hp]
    show (0 : Int) ≤ (m'.1 314 42).toInt ∧ (m'.1 314 42).toInt ≤ 39
    rw [g3 314 42 (fun z => absurd z.1 (by decide))]
    exact ha
theorem rem_ok : vC tS tR jM 1 remc := by
  refine entX (D := 0) (T := []) (fu := 30) (sp := []) (N := []) (X := [(11, [(0, aR [314]), (1, aI 0 0)], [(314, 42, 40, 40)], 0, []), (52, [(0, aR [314]), (1, aI 0 0)], [(314, 42, 0, 39)], 0, [])]) fa_nil (jM_st (by decide)) (fun d hd m0 vs P hI hj hv hF hP => ?_) (by decide +kernel) (by decide +kernel) (by decide +kernel) (by decide +kernel)
  have hJ : ∀ m', gM m0 remc.2.2.2.2 m' → jM m' := fun m' h => jM_st (c := remc) (by decide) m0 m' h hj
  have h86 : nE tS tR m0 remc d P (86, [(0, aR [314])], [(314, 42, 0, 39)], 0, []) := stepX (T := []) (fu := 30) (sp := []) (Y := []) fa_nil hd hJ hv hP fa_nil fa_nil (by decide +kernel)
  have h52 := nd52 h86
  have h40 : nE tS tR m0 remc d P (40, [(0, aR [314])], [(314, 42, 40, 40)], 0, []) := stepX (T := []) (fu := 30) (sp := []) (Y := [(52, [(0, aR [314]), (1, aI 0 0)], [(314, 42, 0, 39)], 0, [])]) fa_nil hd hJ hv hP (fa_cons rfl fa_nil) (fa_cons h52 fa_nil) (by decide +kernel)
  exact fa_cons (nd11 h40) (fa_cons h52 fa_nil)
theorem und_ok : vC tS tR jM 1 undc := by
  refine entX (D := 0) (T := []) (fu := 30) (sp := []) (N := []) (X := [(26, [(0, aR [314]), (1, aI 0 0)], [(314, 42, 0, 39)], 0, [])]) fa_nil (jM_st (by decide)) (fun d hd m0 vs P hI hj hv hF hP => ?_) (by decide +kernel) (by decide +kernel) (by decide +kernel) (by decide +kernel)
  have hJ : ∀ m', gM m0 undc.2.2.2.2 m' → jM m' := fun m' h => jM_st (c := undc) (by decide) m0 m' h hj
  have h60 : nE tS tR m0 undc d P (60, [(0, aR [314])], [(314, 42, 0, 39)], 0, []) := stepX (T := []) (fu := 30) (sp := []) (Y := []) fa_nil hd hJ hv hP fa_nil fa_nil (by decide +kernel)
  exact fa_cons (nd26 h60) fa_nil
