/-! L3: the council of both -/
section CNC
theorem s_i2l {k n pc : Nat} {ca : Nat → List Value → xM → (Option Value → xM → Prop) → Prop} {Q : Option Value → xM → Prop} {l : List (Nat × Value)} {st : List Value} {m : xM} {x : Int32} (hc : lkc pc (kcode k) = some .i2l) (h : xe k ca Q n (pc + 1) l (.long x.toInt64 :: st) m) : xe k ca Q (n + 1) pc l (.int x :: st) m := sx hc h
theorem s_lco {k n pc : Nat} {ca : Nat → List Value → xM → (Option Value → xM → Prop) → Prop} {Q : Option Value → xM → Prop} {l : List (Nat × Value)} {st : List Value} {m : xM} {c} (hc : lkc pc (kcode k) = some (.lconst c)) (h : xe k ca Q n (pc + 1) l (.long (Int64.ofNat (c : Nat)) :: st) m) : xe k ca Q (n + 1) pc l st m := sx hc h
theorem s_ldc {k n pc i : Nat} {v : Int64} {ca : Nat → List Value → xM → (Option Value → xM → Prop) → Prop} {Q : Option Value → xM → Prop} {l : List (Nat × Value)} {st : List Value} {m : xM} (hc : lkc pc (kcode k) = some (.ldc2_w i)) (hv : kLd (kcl k) i = some (.long v)) (h : xe k ca Q n (pc + 3) l (.long v :: st) m) : xe k ca Q (n + 1) pc l st m := sx hc (by
  simp only [xi]
  rw [hv]
  exact h)
theorem isin_x {d : Nat} {x y z : Int64} {m : xM} {Q : Option Value → xM → Prop} (h1 : y.toInt ≤ x.toInt → x.toInt ≤ z.toInt → Q (some (.int 1)) m) (h0 : ¬ (y.toInt ≤ x.toInt ∧ x.toInt ≤ z.toInt) → Q (some (.int 0)) m) : xw (d + 1) 155 [.long x, .long y, .long z] m Q := by
  refine ⟨rfl, rfl, (by show 6 ≤ 6; decide), 20, ?_⟩
  show (lg_cmp x y < 0 → (([] : List Value) = [] ∧ (kr 155 = 1 ∨ (kr 155 = 2 ∧ ((0 : Int32) = 0 ∨ (0 : Int32) = 1))) ∧ Q (some (.int 0)) m)) ∧ (¬ lg_cmp x y < 0 → ((0 < lg_cmp x z → (([] : List Value) = [] ∧ (kr 155 = 1 ∨ (kr 155 = 2 ∧ ((0 : Int32) = 0 ∨ (0 : Int32) = 1))) ∧ Q (some (.int 0)) m)) ∧ (¬ 0 < lg_cmp x z → (([] : List Value) = [] ∧ (kr 155 = 1 ∨ (kr 155 = 2 ∧ ((1 : Int32) = 0 ∨ (1 : Int32) = 1))) ∧ Q (some (.int 1)) m))))
  refine ⟨fun g => ⟨rfl, Or.inr ⟨rfl, Or.inl rfl⟩, h0 (fun z9 => ?_)⟩, fun g1 => ⟨fun g => ⟨rfl, Or.inr ⟨rfl, Or.inl rfl⟩, h0 (fun z9 => ?_)⟩, fun g2 => ⟨rfl, Or.inr ⟨rfl, Or.inr rfl⟩, ?_⟩⟩⟩
  · have := cmp_lt.mp g
    omega
  · have := cmp_gt.mp g
    omega
  · have k1 : ¬ x.toInt < y.toInt := fun q => g1 (cmp_lt.mpr q)
    have k2 : ¬ z.toInt < x.toInt := fun q => g2 (cmp_gt.mpr q)
    exact h1 (by omega) (by omega)
def cnV (v w : Int32) : Prop := (0 ≤ v.toInt ∧ v.toInt ≤ 9) ∧ ¬ v.toInt = w.toInt
theorem cnX {d : Nat} {v : Int32} {m : xM} {P : Option Value → xM → Prop} (h1 : cnV v (m.1 0 16) → P (some (.int 1)) (mI m 0 16 v)) (h0 : ¬ cnV v (m.1 0 16) → P (some (.int 0)) m) : xw (d + 1) 105 [.ref 0, .int v] m P := by
  refine ⟨rfl, rfl, (by show 2 ≤ 2; decide), 30, ?_⟩
  refine s_ild rfl rfl ?_
  refine s_if rfl (fun c => ?_) (fun c => ?_)
  · refine s_con rfl ?_
    exact s_ret rfl (Or.inr ⟨rfl, Or.inl rfl⟩) (h0 (fun z => by have c : v.toInt < 0 := c; have := z.1; omega))
  refine s_ild rfl rfl ?_
  refine s_bip rfl ?_
  refine s_icm rfl (fun c2 => ?_) (fun c2 => ?_)
  · refine s_con rfl ?_
    exact s_ret rfl (Or.inr ⟨rfl, Or.inl rfl⟩) (h0 (fun z => by have c2 : (Int8.ofInt 9).toInt32.toInt < v.toInt := c2; rw [show (Int8.ofInt 9).toInt32.toInt = 9 by decide] at c2; have := z.1; omega))
  refine s_ild rfl rfl ?_
  refine s_ald rfl rfl ?_
  refine s_gfI rfl rfl (Or.inl rfl) rfl ?_
  have c : ¬ v.toInt < 0 := c
  have c2 : ¬ (Int8.ofInt 9).toInt32.toInt < v.toInt := c2
  rw [show (Int8.ofInt 9).toInt32.toInt = 9 by decide] at c2
  refine s_icm rfl (fun c3 => ?_) (fun c3 => ?_)
  · have c3 : ¬ v.toInt = (m.1 0 16).toInt := c3
    refine s_ald rfl rfl ?_
    refine s_ild rfl rfl ?_
    refine s_pfI rfl rfl rfl rfl rfl ?_
    refine s_con rfl ?_
    exact s_ret rfl (Or.inr ⟨rfl, Or.inr rfl⟩) (h1 ⟨by omega, c3⟩)
  · have c3 : ¬ ¬ v.toInt = (m.1 0 16).toInt := c3
    refine s_con rfl ?_
    exact s_ret rfl (Or.inr ⟨rfl, Or.inl rfl⟩) (h0 (fun z => c3 z.2))
theorem cnM {d : Nat} {v : Int32} {m : xM} {P : Option Value → xM → Prop} (h1 : cnV v (m.1 314 35) → P (some (.int 1)) (mI (mI m 314 0 (Int32.ofInt 0)) 314 35 v)) (h0 : ¬ cnV v (m.1 314 35) → P (some (.int 0)) (mI m 314 0 (Int32.ofInt 0))) : xw (d + 2) 209 [.ref 314, .int v] m P := by
  refine ⟨rfl, rfl, (by show 2 ≤ 2; decide), 30, ?_⟩
  refine s_ald rfl rfl ?_
  refine s_con rfl ?_
  refine s_pfI rfl rfl rfl rfl rfl ?_
  refine s_ild rfl rfl ?_
  refine s_i2l rfl ?_
  refine s_lco rfl ?_
  refine s_ldc (v := 9) rfl rfl ?_
  refine s_is (j := 155) (r := []) rfl rfl rfl (by show 0 ≤ 8; decide) rfl rfl ?_
  have e0 : (Int64.ofNat ((0 : Fin 2) : Nat)).toInt = 0 := by decide
  have e9 : (9 : Int64).toInt = 9 := by decide
  have ev : v.toInt64.toInt = v.toInt := Int32.toInt_toInt64 _
  refine isin_x (fun g1 g2 => ?_) (fun g => ?_)
  · rw [e0, ev] at g1
    rw [e9, ev] at g2
    refine s_if rfl (fun c => absurd (show (1 : Int32).toInt = 0 from c) (by decide)) (fun _ => ?_)
    refine s_ild rfl rfl ?_
    refine s_ald rfl rfl ?_
    refine s_gfI rfl rfl (Or.inl rfl) rfl ?_
    rw [sI_off (by decide)]
    refine s_icm rfl (fun c3 => ?_) (fun c3 => ?_)
    · have c3 : ¬ v.toInt = (m.1 314 35).toInt := c3
      refine s_ald rfl rfl ?_
      refine s_ild rfl rfl ?_
      refine s_pfI rfl rfl rfl rfl rfl ?_
      refine s_con rfl ?_
      exact s_ret rfl (Or.inr ⟨rfl, Or.inr rfl⟩) (h1 ⟨⟨g1, g2⟩, c3⟩)
    · have c3 : ¬ ¬ v.toInt = (m.1 314 35).toInt := c3
      refine s_con rfl ?_
      exact s_ret rfl (Or.inr ⟨rfl, Or.inl rfl⟩) (h0 (fun z => c3 z.2))
  · rw [e0, e9, ev] at g
    refine s_if rfl (fun _ => ?_) (fun c => absurd (show (0 : Int32).toInt = 0 by decide) c)
    refine s_con rfl ?_
    exact s_ret rfl (Or.inr ⟨rfl, Or.inl rfl⟩) (h0 (fun z => g z.1))
end CNC
