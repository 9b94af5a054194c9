/-! L2: a contract by cases of what holds at the start -/
theorem fct_mem {a i : Nat} {r : Int × Int} : ∀ {F : aFs}, fct a i F = some r → (a, i, r.1, r.2) ∈ F
  | [], h => by cases h
  | (b, j, lo, hi) :: t, h => by
    by_cases z : a = b ∧ i = j
    · obtain ⟨rfl, rfl⟩ := z
      rw [fct_h] at h
      cases h
      exact List.mem_cons_self
    · rw [fct_t z] at h
      exact List.mem_cons_of_mem _ (fct_mem h)
theorem gF_all {m : xM} {F : aFs} (h : ∀ p ∈ F, p.2.2.1 ≤ (m.1 p.1 p.2.1).toInt ∧ (m.1 p.1 p.2.1).toInt ≤ p.2.2.2) : gF m F := fun _ _ _ hr => h _ (fct_mem hr)
theorem vC_cs {J : xM → Prop} {tS : Nat → List (Nat × Int × Int)} {tR : Nat → Nat → Option Nat} {D n : Nat} {c : aCt} (Fs : Nat → aFs) (h : ∀ q, q < n → vC tS tR J D (c.1, c.2.1, Fs q, c.2.2.2)) (hc : ∀ m, gI tS tR m → J m → gF m c.2.2.1 → ∃ q, q < n ∧ gF m (Fs q)) : vC tS tR J D c := fun d hd m vs P hI hj hv hF hP => by
  obtain ⟨q, hq, hf⟩ := hc m hI hj hF
  exact h q hq d hd m vs P hI hj hv hf hP
def lyF (s : Nat) : aFs := (314, 26, (s : Int), (s : Int)) :: (List.range s).flatMap (fun e => [(320, 4 * e, 0, 7), (320, 4 * e + 1, 0, 7), (320, 4 * e + 2, 0, 40)])
theorem lyF_ok {m : xM} (hj : jM m) (h0 : 0 ≤ (m.1 314 26).toInt) (h1 : (m.1 314 26).toInt ≤ 12) : gF m (lyF (m.1 314 26).toInt.toNat) := by
  refine gF_all (fun p hp => ?_)
  rcases List.mem_cons.mp hp with e | hp
  · subst e
    refine ⟨?_, ?_⟩
    · show (((m.1 314 26).toInt.toNat : Nat) : Int) ≤ (m.1 314 26).toInt
      omega
    · show (m.1 314 26).toInt ≤ (((m.1 314 26).toInt.toNat : Nat) : Int)
      omega
  · obtain ⟨e, he, h2⟩ := List.mem_flatMap.mp hp
    have he := List.mem_range.mp he
    obtain ⟨a1, a2, a3⟩ := hj.1 e (by omega) (by omega)
    simp only [List.mem_cons, List.not_mem_nil, or_false] at h2
    rcases h2 with rfl | rfl | rfl
    · exact a1
    · exact a2
    · exact a3
def yrF (q : Nat) : aFs := match q with
  | 0 => [(314, 26, 0, 0)]
  | _ => [(314, 26, 1, 12), (314, 27, 1, 4), (314, 25, 2, 8)]
theorem yrF_ok {m : xM} (hj : jM m) (h0 : 0 ≤ (m.1 314 26).toInt) (h1 : (m.1 314 26).toInt ≤ 12) (h2 : (m.1 314 27).toInt ≤ 4) (h3 : (m.1 314 25).toInt ≤ 8) : ∃ q, q < 2 ∧ gF m (yrF q) := by
  by_cases e : (m.1 314 26).toInt = 0
  · refine ⟨0, by omega, gF_all (fun p hp => ?_)⟩
    rw [List.mem_singleton.mp hp]
    exact ⟨by show (0 : Int) ≤ (m.1 314 26).toInt; omega, by show (m.1 314 26).toInt ≤ 0; omega⟩
  · obtain ⟨h4, h5⟩ := hj.2 (by omega)
    refine ⟨1, by omega, gF_all (fun p hp => ?_)⟩
    simp only [yrF, List.mem_cons, List.not_mem_nil, or_false] at hp
    rcases hp with rfl | rfl | rfl
    · exact ⟨by show (1 : Int) ≤ (m.1 314 26).toInt; omega, h1⟩
    · exact ⟨h4, h2⟩
    · exact ⟨h5, h3⟩
