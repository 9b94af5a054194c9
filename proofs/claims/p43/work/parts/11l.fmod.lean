/-! L2: floorMod by 100 -/
theorem fm_sgn (x : Int32) : 0 ≤ (x ^^^ 100).toInt ↔ 0 ≤ x.toInt := by
  have h1 : (x ^^^ 100).toInt = (x.toBitVec ^^^ (100#32)).toInt := rfl
  have h2 : x.toInt = x.toBitVec.toInt := rfl
  have h3 : (x.toBitVec ^^^ (100#32)).msb = x.toBitVec.msb := by
    rw [BitVec.msb_xor]
    rw [show (100#32).msb = false from rfl, Bool.xor_false]
  have h4 := BitVec.msb_eq_toInt (x := x.toBitVec ^^^ (100#32))
  have h5 := BitVec.msb_eq_toInt (x := x.toBitVec)
  rw [h3, h5, decide_eq_decide] at h4
  rw [h1, h2]
  omega
theorem fm_dv (x : Int32) : (x / 100).toInt = x.toInt.tdiv 100 := Int32.toInt_div_of_ne_right x 100 (by decide)
theorem fm_rem (x : Int32) : (0 ≤ x.toInt → 0 ≤ (x - x / 100 * 100).toInt ∧ (x - x / 100 * 100).toInt ≤ 99) ∧ (x.toInt < 0 → -99 ≤ (x - x / 100 * 100).toInt ∧ (x - x / 100 * 100).toInt ≤ 0) := by
  have h0 := i32_rng x
  unfold iLo iHi at h0
  have hd := fm_dv x
  have key : ∀ q : Int, x.toInt.tdiv 100 = q → -21474837 ≤ q → q ≤ 21474836 → -99 ≤ x.toInt - q * 100 → x.toInt - q * 100 ≤ 99 → -2147483648 ≤ q * 100 → q * 100 ≤ 2147483647 → (x - x / 100 * 100).toInt = x.toInt - q * 100 := by
    intro q e _ _ h1 h2 h3 h4
    have e1 : (x / 100 * 100).toInt = q * 100 := by
      rw [Int32.toInt_mul, hd, e]
      show (q * 100).bmod (2 ^ 32) = q * 100
      exact Int.bmod_eq_of_le (by omega) (by omega)
    rw [Int32.toInt_sub, e1]
    exact Int.bmod_eq_of_le (by omega) (by omega)
  refine ⟨fun h => ?_, fun h => ?_⟩
  · have e := Int.tdiv_eq_ediv_of_nonneg (a := x.toInt) (b := 100) h
    have k := key (x.toInt / 100) e (by omega) (by omega) (by omega) (by omega) (by omega) (by omega)
    rw [k]
    omega
  · have e : x.toInt.tdiv 100 = -((-x.toInt) / 100) := by
      rw [← Int.tdiv_eq_ediv_of_nonneg (a := -x.toInt) (b := 100) (by omega), Int.neg_tdiv, Int.neg_neg]
    have k := key (-((-x.toInt) / 100)) e (by omega) (by omega) (by omega) (by omega) (by omega) (by omega)
    rw [k]
    omega
theorem fm_add {r : Int32} (h1 : -99 ≤ r.toInt) (h2 : r.toInt ≤ 0) (h3 : r ≠ 0) : 0 ≤ (r + 100).toInt ∧ (r + 100).toInt ≤ 99 := by
  have h4 : r.toInt ≠ 0 := fun z => h3 (Int32.toInt_inj.mp z)
  have e : (r + 100).toInt = r.toInt + 100 := by
    rw [Int32.toInt_add]
    exact Int.bmod_eq_of_le (by show _ ≤ r.toInt + 100; omega) (by show r.toInt + 100 < _; omega)
  omega
theorem fm_ok {J : xM → Prop} {tS : Nat → List (Nat × Int × Int)} {tR : Nat → Nat → Option Nat} : vC tS tR J 1 (265, [aIt, aI 100 100], [], [(some (aI 0 99), [(iLo, iHi), (iLo, iHi)], [])], []) := by
  intro d hd m vs P hI _ hv hF hP
  obtain ⟨d, rfl⟩ : ∃ e, d = e + 1 := ⟨d - 1, by omega⟩
  match vs, hv with
  | [v, w], hv =>
    obtain ⟨x, rfl, hx, -⟩ := aH_int hv.1 rfl
    obtain ⟨y, rfl, hy, -⟩ := aH_int hv.2.1 rfl
    have ey : y = 100 := Int32.toInt_inj.mp (by
      have h1 : (100 : Int) ≤ y.toInt ∧ y.toInt ≤ 100 := hy
      rw [show y.toInt = 100 by omega]
      rfl)
    subst ey
    have hfin : ∀ z : Int32, 0 ≤ z.toInt ∧ z.toInt ≤ 99 → P (some (.int z)) m := fun z hz => hP _ _ ⟨hI, fun a i _ => rfl, _, List.mem_singleton.mpr rfl, ⟨_, rfl, Or.inr (Or.inl ⟨rfl, z, rfl, hz, trivial⟩)⟩, ⟨⟨fun z9 _ => i32_rng z9, fun w9 h9 => by cases h9⟩, ⟨fun z9 _ => i32_rng z9, fun w9 h9 => by cases h9⟩, trivial⟩, gF_nil⟩
    obtain ⟨r1, r2⟩ := fm_rem x
    have hs := fm_sgn x
    refine ⟨rfl, rfl, (by show 2 ≤ 3; decide), 20, ?_⟩
    show ¬ (100 : Int32) = 0 ∧ (2 < 3 ∧ ((0 ≤ x ^^^ 100 → (([] : List Value) = [] ∧ (kr 265 = 1 ∨ (kr 265 = 2 ∧ (x - x / 100 * 100 = 0 ∨ x - x / 100 * 100 = 1))) ∧ P (some (.int (x - x / 100 * 100))) m)) ∧ (¬ 0 ≤ x ^^^ 100 → ((x - x / 100 * 100 = 0 → (([] : List Value) = [] ∧ (kr 265 = 1 ∨ (kr 265 = 2 ∧ (x - x / 100 * 100 = 0 ∨ x - x / 100 * 100 = 1))) ∧ P (some (.int (x - x / 100 * 100))) m)) ∧ (¬ x - x / 100 * 100 = 0 → (([] : List Value) = [] ∧ (kr 265 = 1 ∨ (kr 265 = 2 ∧ (x - x / 100 * 100 + 100 = 0 ∨ x - x / 100 * 100 + 100 = 1))) ∧ P (some (.int (x - x / 100 * 100 + 100))) m))))))
    refine ⟨by decide, by decide, fun h => ?_, fun h => ⟨fun h2 => ?_, fun h2 => ?_⟩⟩
    · have := (fa_le _ _).mp h
      exact ⟨rfl, Or.inl rfl, hfin _ (r1 (hs.mp this))⟩
    · have : ¬ 0 ≤ x.toInt := fun z => h ((fa_le _ _).mpr (hs.mpr z))
      rw [h2]
      exact ⟨rfl, Or.inl rfl, hfin _ (by decide)⟩
    · have : ¬ 0 ≤ x.toInt := fun z => h ((fa_le _ _).mpr (hs.mpr z))
      have r3 := r2 (by omega)
      exact ⟨rfl, Or.inl rfl, hfin _ (fm_add r3.1 r3.2 h2)⟩
  | [], hv => exact hv.elim
  | [_], hv => exact hv.2.elim
  | _ :: _ :: _ :: _, hv => exact hv.2.2.elim
