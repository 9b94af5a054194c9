/-! L2: feed: by hand -/
def bq (v k : Int32) : Nat := if (v >>> (k &&& 31) &&& (Int16.ofInt 255).toInt32).toInt = 0 then 0 else 1
theorem bq_le {v k : Int32} : bq v k ≤ 1 := by
  unfold bq
  split <;> decide
def k24 : Int32 := (Int8.ofInt 24).toInt32
def k16 : Int32 := k24 + Int32.ofInt (-8)
def k08 : Int32 := k16 + Int32.ofInt (-8)
def k00 : Int32 := k08 + Int32.ofInt (-8)
def kmm : Int32 := k00 + Int32.ofInt (-8)
theorem kk_ok : ¬ k24.toInt < 0 ∧ ¬ k16.toInt < 0 ∧ ¬ k08.toInt < 0 ∧ ¬ k00.toInt < 0 ∧ kmm.toInt < 0 := by decide
def nb (v : Int32) : Nat := bq v k24 + bq v k16 + bq v k08 + bq v k00
theorem nb_le {v : Int32} : nb v ≤ 4 := by
  have h1 := bq_le (v := v) (k := k24)
  have h2 := bq_le (v := v) (k := k16)
  have h3 := bq_le (v := v) (k := k08)
  have h4 := bq_le (v := v) (k := k00)
  unfold nb
  omega
theorem b_it {ca : Nat → List Value → xM → (Option Value → xM → Prop) → Prop} {P : Option Value → xM → Prop} {v K : Int32} {m : xM} {n G : Nat} (hK : ¬ K.toInt < 0) (hP : ∀ (l' : List (Nat × Value)) (g : Nat), G ≤ g → lkl 0 l' = some (.int v) → lkl 1 l' = some (.int (nI (n + bq v K))) → lkl 2 l' = some (.int (K + Int32.ofInt (-8))) → xe 158 ca P g 5 l' [] m) {l : List (Nat × Value)} {f : Nat} (hf : G + 20 ≤ f) (h0 : lkl 0 l = some (.int v)) (h1 : lkl 1 l = some (.int (nI n))) (h2 : lkl 2 l = some (.int K)) : xe 158 ca P f 5 l [] m := by
  obtain ⟨f, rfl⟩ : ∃ n, f = n + 20 := ⟨f - 20, by omega⟩
  refine s_ild rfl h2 ?_
  refine s_if rfl (fun c => absurd c hK) (fun _ => ?_)
  refine s_ild rfl h1 ?_
  refine s_ild rfl h0 ?_
  refine s_ild rfl h2 ?_
  refine s_shr rfl ?_
  refine s_sip rfl ?_
  refine s_and rfl ?_
  refine s_if rfl (fun c => ?_) (fun c => ?_)
  · have e : bq v K = 0 := if_pos c
    refine s_con rfl ?_
    refine s_add rfl ?_
    refine s_ist rfl (by decide) ?_
    refine s_inc rfl (by decide) (sv1_ne h2 (by decide) (fun q => by cases q.2)) ?_
    refine s_goto rfl ?_
    rw [show Int32.ofInt 0 = nI 0 by decide, r_ad]
    refine hP _ _ (by omega) (sv1_ne (sv1_ne h0 (by decide) (fun q => by cases q.2)) (by decide) (fun q => by cases q.2)) ?_ lkl_h
    rw [e]
    exact sv1_ne lkl_h (by decide) (fun q => by cases q.2)
  · have e : bq v K = 1 := if_neg c
    refine s_con rfl ?_
    refine s_goto rfl ?_
    refine s_add rfl ?_
    refine s_ist rfl (by decide) ?_
    refine s_inc rfl (by decide) (sv1_ne h2 (by decide) (fun q => by cases q.2)) ?_
    refine s_goto rfl ?_
    rw [show Int32.ofInt 1 = nI 1 by decide, r_ad]
    refine hP _ _ (by omega) (sv1_ne (sv1_ne h0 (by decide) (fun q => by cases q.2)) (by decide) (fun q => by cases q.2)) ?_ lkl_h
    rw [e]
    exact sv1_ne lkl_h (by decide) (fun q => by cases q.2)
theorem bytes_ok {d : Nat} {v : Int32} {m : xM} {Q : Option Value → xM → Prop} (h : Q (some (.int (nI (nb v)))) m) : xw (d + 1) 158 [.int v] m Q := by
  obtain ⟨q1, q2, q3, q4, q5⟩ := kk_ok
  refine ⟨rfl, rfl, (by show 1 ≤ 3; decide), 94, ?_⟩
  refine s_con rfl ?_
  refine s_ist rfl (by decide) ?_
  refine s_bip rfl ?_
  refine s_ist rfl (by decide) ?_
  refine b_it (n := 0) (K := k24) (G := 70) q1 (fun l1 g1 a1 a2 a3 a4 => ?_) (by omega) rfl rfl rfl
  refine b_it (K := k16) (G := 50) q2 (fun l2 g2 b1 b2 b3 b4 => ?_) (by omega) a2 a3 a4
  refine b_it (K := k08) (G := 30) q3 (fun l3 g3 c1 c2 c3 c4 => ?_) (by omega) b2 b3 b4
  refine b_it (K := k00) (G := 10) q4 (fun l4 g4 d1 d2 d3 d4 => ?_) (by omega) c2 c3 c4
  obtain ⟨g4, rfl⟩ : ∃ n, g4 = n + 10 := ⟨g4 - 10, by omega⟩
  refine s_ild rfl d4 ?_
  refine s_if rfl (fun _ => ?_) (fun c => absurd (show kmm.toInt < 0 from q5) c)
  refine s_ild rfl d3 ?_
  refine s_ret rfl (Or.inl rfl) ?_
  rw [Nat.zero_add]
  exact h
theorem byte_rng (x : Int32) : -128 ≤ (vp_nar .byte x).toInt ∧ (vp_nar .byte x).toInt ≤ 127 := by
  have e : (vp_nar .byte x).toInt = x.toInt8.toInt := by
    show x.toInt8.toInt32.toInt = _
    exact Int8.toInt_toInt32 _
  have h1 := Int8.le_toInt x.toInt8
  have h2 := Int8.toInt_lt x.toInt8
  rw [e]
  omega
theorem tp_rng : ∀ q, q < 240 → gseg q (tS 315) = (-128, 127) := by decide +kernel
theorem ln_rng : gseg 6 (tS 314) = (0, 240) := by decide +kernel
/-- what put and feed leave as it was -/
def pFr (m m' : xM) : Prop := ∀ a i, ¬ (a = 314 ∧ i = 6) → ¬ (a = 315 ∧ i < 240) → m'.1 a i = m.1 a i
theorem pFr_t {m m' m2 : xM} (h1 : pFr m m') (h2 : pFr m' m2) : pFr m m2 := fun a i g1 g2 => by rw [h2 a i g1 g2, h1 a i g1 g2]
theorem p_it {ca : Nat → List Value → xM → (Option Value → xM → Prop) → Prop} {P : Option Value → xM → Prop} {v K : Int32} {m0 m : xM} {n G : Nat} (hK : ¬ K.toInt < 0) (hI : gI tS tR m) (hl : (m.1 314 6).toInt = n) (hn : n + bq v K ≤ 240) (hfr : pFr m0 m) (hP : ∀ (m' : xM) (l' : List (Nat × Value)) (g : Nat), G ≤ g → gI tS tR m' → (m'.1 314 6).toInt = (n + bq v K : Nat) → pFr m0 m' → lkl 0 l' = some (.ref 314) → lkl 1 l' = some (.int v) → lkl 2 l' = some (.int (K + Int32.ofInt (-8))) → xe 159 ca P g 3 l' [] m') {l : List (Nat × Value)} {f : Nat} (hf : G + 30 ≤ f) (h0 : lkl 0 l = some (.ref 314)) (h1 : lkl 1 l = some (.int v)) (h2 : lkl 2 l = some (.int K)) : xe 159 ca P f 3 l [] m := by
  have hR := hI.2
  obtain ⟨f, rfl⟩ : ∃ n, f = n + 30 := ⟨f - 30, by omega⟩
  refine s_ild rfl h2 ?_
  refine s_if rfl (fun c => absurd c hK) (fun _ => ?_)
  refine s_ild rfl h1 ?_
  refine s_ild rfl h2 ?_
  refine s_shr rfl ?_
  refine s_sip rfl ?_
  refine s_and rfl ?_
  refine s_if rfl (fun c => ?_) (fun c => ?_)
  · have e : bq v K = 1 := if_neg c
    have el : m.1 314 6 = nI n := Int32.toInt_inj.mp (by rw [hl, nI_toInt (by omega)])
    refine s_ald rfl h0 ?_
    refine s_gfR (b := 315) rfl rfl rfl rfl (hR 314 1 _ rfl) ?_
    refine s_ald rfl h0 ?_
    refine s_gfI rfl rfl (Or.inl rfl) rfl ?_
    refine s_ild rfl h1 ?_
    refine s_ild rfl h2 ?_
    refine s_shr rfl ?_
    refine s_i2b rfl ?_
    rw [el]
    refine s_bas (N := 240) rfl rfl (r_vp (by omega) (by decide)) ?_
    rw [nI_clamp (by omega)]
    refine s_ald rfl h0 ?_
    refine s_dup rfl ?_
    refine s_gfI rfl rfl (Or.inl rfl) rfl ?_
    refine s_con rfl ?_
    refine s_add rfl ?_
    refine s_pfI rfl rfl rfl rfl rfl ?_
    refine s_inc rfl (by decide) h2 ?_
    refine s_goto rfl ?_
    rw [sI_off (fun z => absurd z.1 (by decide)), el, show Int32.ofInt 1 = nI 1 by decide, r_ad]
    refine hP _ _ _ (by omega) (gI_m2 (gI_m2 hI (by rw [tp_rng n (by omega)]; exact byte_rng _)) (by rw [ln_rng]; rw [nI_toInt (by omega)]; exact ⟨by show (0 : Int) ≤ _; omega, by show _ ≤ (240 : Int); omega⟩)) ?_ (fun a i g1 g2 => ?_) (sv1_ne h0 (by decide) (fun q => by cases q.2)) (sv1_ne h1 (by decide) (fun q => by cases q.2)) lkl_h
    · rw [sI_on, nI_toInt (by omega), e]
    · rw [sI_off g1, sI_off (fun z => g2 ⟨z.1, by rw [z.2]; omega⟩)]
      exact hfr a i g1 g2
  · have e : bq v K = 0 := if_pos (Decidable.not_not.mp c)
    refine s_goto rfl ?_
    refine s_inc rfl (by decide) h2 ?_
    refine s_goto rfl ?_
    exact hP m _ _ (by omega) hI (by rw [hl, e]; rfl) hfr (sv1_ne h0 (by decide) (fun q => by cases q.2)) (sv1_ne h1 (by decide) (fun q => by cases q.2)) lkl_h
theorem put_ok {d : Nat} {v : Int32} {m0 m : xM} {n : Nat} {Q : Option Value → xM → Prop} (hI : gI tS tR m) (hl : (m.1 314 6).toInt = n) (hn : n + nb v ≤ 240) (hfr : pFr m0 m) (h : ∀ m', gI tS tR m' → (m'.1 314 6).toInt = (n + nb v : Nat) → pFr m0 m' → Q none m') : xw (d + 1) 159 [.ref 314, .int v] m Q := by
  obtain ⟨q1, q2, q3, q4, q5⟩ := kk_ok
  unfold nb at hn
  refine ⟨rfl, rfl, (by show 2 ≤ 3; decide), 134, ?_⟩
  refine s_bip rfl ?_
  refine s_ist rfl (by decide) ?_
  refine p_it (K := k24) (G := 100) q1 hI hl (by omega) hfr (fun m1 l1 g1 a1 a2 a3 a4 a5 a6 a7 => ?_) (by omega) rfl rfl rfl
  refine p_it (K := k16) (G := 70) q2 a2 a3 (by omega) a4 (fun m2 l2 g2 b1 b2 b3 b4 b5 b6 b7 => ?_) (by omega) a5 a6 a7
  refine p_it (K := k08) (G := 40) q3 b2 b3 (by omega) b4 (fun m3 l3 g3 c1 c2 c3 c4 c5 c6 c7 => ?_) (by omega) b5 b6 b7
  refine p_it (K := k00) (G := 10) q4 c2 c3 (by omega) c4 (fun m4 l4 g4 d1 d2 d3 d4 d5 d6 d7 => ?_) (by omega) c5 c6 c7
  obtain ⟨g4, rfl⟩ : ∃ n, g4 = n + 10 := ⟨g4 - 10, by omega⟩
  refine s_ild rfl d7 ?_
  refine s_if rfl (fun _ => ?_) (fun c => absurd (show kmm.toInt < 0 from q5) c)
  refine s_rv rfl rfl ?_
  refine h m4 d2 ?_ d4
  rw [d3]
  unfold nb
  congr 1
  omega
def feedc : aCt := (160, [aR [314], aIt, aIt, aIt, aIt, aIt], [], [(some (aI (-1) 240), [(lLo, lHi), (lLo, lHi), (lLo, lHi), (lLo, lHi), (lLo, lHi), (lLo, lHi)], [])], [(314, 0, 1), (314, 6, 7), (315, 0, 240)])
theorem fullI (v9 : Value) (h9 : v9.category = 1) : (∀ z9, v9 = .int z9 → lLo ≤ z9.toInt ∧ z9.toInt ≤ lHi) ∧ ∀ w9, v9 = .long w9 → lLo ≤ w9.toInt ∧ w9.toInt ≤ lHi := ⟨fun z9 _ => by have := i32_rng z9; unfold iLo iHi at this; unfold lLo lHi; omega, fun w9 e9 => by rw [e9] at h9; cases h9⟩
theorem th_rng : gseg 0 (tS 314) = (iLo, iHi) := by decide +kernel
theorem feed_ok : vC tS tR jM 2 feedc := by
  intro d hd m vs P hI hj hv hF hP
  obtain ⟨d, rfl⟩ : ∃ e, d = e + 2 := ⟨d - 2, by omega⟩
  match vs, hv with
  | [v0, v1, v2, v3, v4, v5], hv =>
    obtain ⟨b0, rfl, h0⟩ := aH_ref hv.1 rfl
    obtain rfl : b0 = 314 := List.mem_singleton.mp h0
    obtain ⟨x1, rfl, -, -⟩ := aH_int hv.2.1 rfl
    obtain ⟨x2, rfl, -, -⟩ := aH_int hv.2.2.1 rfl
    obtain ⟨x3, rfl, -, -⟩ := aH_int hv.2.2.2.1 rfl
    obtain ⟨x4, rfl, -, -⟩ := aH_int hv.2.2.2.2.1 rfl
    obtain ⟨x5, rfl, -, -⟩ := aH_int hv.2.2.2.2.2.1 rfl
    have hfin : ∀ (r : Int32) (m' : xM), -1 ≤ r.toInt ∧ r.toInt ≤ 240 → gI tS tR m' → (∀ a i, ¬ (a = 314 ∧ i = 0) → ¬ (a = 314 ∧ i = 6) → ¬ (a = 315 ∧ i < 240) → m'.1 a i = m.1 a i) → P (some (.int r)) m' := fun r m' hr h1 h2 => hP _ _ ⟨h1, fun a i hw => h2 a i (fun z => (wm1_c.mp hw).1 ⟨z.1.symm, Nat.zero_le _, by show i < 1; omega⟩) (fun z => (wm1_c.mp (wm1_c.mp hw).2).1 ⟨z.1.symm, by show 6 ≤ i; omega, by show i < 7; omega⟩) (fun z => wm1_3 hw ⟨z.1.symm, Nat.zero_le _, by show i < 240; omega⟩), _, List.mem_singleton.mpr rfl, ⟨_, rfl, Or.inr (Or.inl ⟨rfl, _, rfl, hr, trivial⟩)⟩, ⟨fullI _ rfl, fullI _ rfl, fullI _ rfl, fullI _ rfl, fullI _ rfl, fullI _ rfl, trivial⟩, gF_nil⟩
    have hI1 : gI tS tR (mI m 314 0 (Int32.ofInt 0)) := gI_m2 hI (by rw [th_rng]; decide)
    have hlen : (0 : Int) ≤ (m.1 314 6).toInt ∧ (m.1 314 6).toInt ≤ 240 := hI.1 314 6
    have el := r_nI hlen (by decide)
    have y1 := nb_le (v := x1)
    have y2 := nb_le (v := x2)
    have y3 := nb_le (v := x3)
    have y4 := nb_le (v := x4)
    have y5 := nb_le (v := x5)
    refine ⟨rfl, rfl, (by show 6 ≤ 6; decide), 60, ?_⟩
    refine s_ald rfl rfl ?_
    refine s_con rfl ?_
    refine s_pfI rfl rfl rfl rfl rfl ?_
    refine s_ald rfl rfl ?_
    refine s_gfI rfl rfl (Or.inl rfl) rfl ?_
    rw [sI_off (by decide), el]
    refine s_ild rfl rfl ?_
    refine s_is (j := 158) rfl rfl rfl (by show 1 ≤ 8; decide) rfl rfl ?_
    refine bytes_ok ?_
    refine s_add rfl ?_
    rw [r_ad]
    refine s_ild rfl rfl ?_
    refine s_is (j := 158) rfl rfl rfl (by show 1 ≤ 8; decide) rfl rfl ?_
    refine bytes_ok ?_
    refine s_add rfl ?_
    rw [r_ad]
    refine s_ild rfl rfl ?_
    refine s_is (j := 158) rfl rfl rfl (by show 1 ≤ 8; decide) rfl rfl ?_
    refine bytes_ok ?_
    refine s_add rfl ?_
    rw [r_ad]
    refine s_ild2 rfl rfl ?_
    refine s_is (j := 158) rfl rfl rfl (by show 1 ≤ 8; decide) rfl rfl ?_
    refine bytes_ok ?_
    refine s_add rfl ?_
    rw [r_ad]
    refine s_ild2 rfl rfl ?_
    refine s_is (j := 158) rfl rfl rfl (by show 1 ≤ 8; decide) rfl rfl ?_
    refine bytes_ok ?_
    refine s_add rfl ?_
    rw [r_ad]
    refine s_sip rfl ?_
    refine s_icm rfl (fun c => ?_) (fun c => ?_)
    · have c : (nI ((m.1 314 6).toInt.toNat + nb x1 + nb x2 + nb x3 + nb x4 + nb x5)).toInt ≤ (Int16.ofInt 240).toInt32.toInt := c
      rw [nI_toInt (by omega), show (Int16.ofInt 240).toInt32.toInt = 240 by decide] at c
      have hl1 : ((mI m 314 0 (Int32.ofInt 0)).1 314 6).toInt = ((m.1 314 6).toInt.toNat : Nat) := by rw [sI_off (by decide)]; omega
      refine s_ald rfl rfl ?_
      refine s_ild rfl rfl ?_
      refine s_iv (j := 159) rfl rfl rfl rfl (by decide) rfl rfl ?_
      refine put_ok hI1 hl1 (by omega) (fun _ _ _ _ => rfl) (fun m1 a1 a2 a3 => ?_)
      refine s_ald rfl rfl ?_
      refine s_ild rfl rfl ?_
      refine s_iv (j := 159) rfl rfl rfl rfl (by decide) rfl rfl ?_
      refine put_ok a1 a2 (by omega) a3 (fun m2 b1 b2 b3 => ?_)
      refine s_ald rfl rfl ?_
      refine s_ild rfl rfl ?_
      refine s_iv (j := 159) rfl rfl rfl rfl (by decide) rfl rfl ?_
      refine put_ok b1 b2 (by omega) b3 (fun m3 c1 c2 c3 => ?_)
      refine s_ald rfl rfl ?_
      refine s_ild2 rfl rfl ?_
      refine s_iv (j := 159) rfl rfl rfl rfl (by decide) rfl rfl ?_
      refine put_ok c1 c2 (by omega) c3 (fun m4 d1 d2 d3 => ?_)
      refine s_ald rfl rfl ?_
      refine s_ild2 rfl rfl ?_
      refine s_iv (j := 159) rfl rfl rfl rfl (by decide) rfl rfl ?_
      refine put_ok d1 d2 (by omega) d3 (fun m5 e1 e2 e3 => ?_)
      refine s_ald rfl rfl ?_
      refine s_gfI rfl rfl (Or.inl rfl) rfl ?_
      refine s_ret rfl (Or.inl rfl) ?_
      have hl5 : (0 : Int) ≤ (m5.1 314 6).toInt ∧ (m5.1 314 6).toInt ≤ 240 := e1.1 314 6
      refine hfin _ m5 (by omega) e1 (fun a i g1 g2 g3 => ?_)
      rw [e3 a i g2 g3, sI_off g1]
    · refine s_con rfl ?_
      refine s_ret rfl (Or.inl rfl) ?_
      exact hfin _ _ (by decide) hI1 (fun a i g1 _ _ => sI_off g1)
  | [], hv => exact hv.elim
  | [_], hv => exact hv.2.elim
  | [_, _], hv => exact hv.2.2.elim
  | [_, _, _], hv => exact hv.2.2.2.elim
  | [_, _, _, _], hv => exact hv.2.2.2.2.elim
  | [_, _, _, _, _], hv => exact hv.2.2.2.2.2.elim
  | _ :: _ :: _ :: _ :: _ :: _ :: _ :: _, hv => exact hv.2.2.2.2.2.2.elim
