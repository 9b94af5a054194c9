/-! L2: has, reached: by hand -/
theorem has_any {d : Nat} {a k : Int32} {m : xM} {Q : Option Value → xM → Prop} (h : ∀ r : Int32, (r = 0 ∨ r = 1) → Q (some (.int r)) m) : xw (d + 1) 156 [.int a, .int k] m Q := by
  refine ⟨by decide +kernel, by decide +kernel, (by show 2 ≤ 2; decide), 12, ?_⟩
  refine s_ild rfl rfl ?_
  refine s_ild rfl rfl ?_
  refine s_shr rfl ?_
  refine s_con rfl ?_
  refine s_and rfl ?_
  refine s_con rfl ?_
  refine s_icm rfl (fun _ => ?_) (fun _ => ?_)
  · refine s_con rfl ?_
    exact s_ret rfl (Or.inr ⟨rfl, Or.inl rfl⟩) (h _ (Or.inl rfl))
  · refine s_con rfl ?_
    refine s_goto rfl ?_
    exact s_ret rfl (Or.inr ⟨rfl, Or.inr rfl⟩) (h _ (Or.inr rfl))
theorem r_sh : ∀ q, q < 8 → Int32.ofInt 1 <<< (nI q &&& 31) = nI (2 ^ q) := by decide +kernel
theorem r_lt : ∀ q, q < 8 → 2 ^ q < 2 ^ 8 := by decide
theorem r_nI {x : Int32} {h : Int} (h0 : 0 ≤ x.toInt ∧ x.toInt ≤ h) (hh : h < 2147483648) : x = nI x.toInt.toNat := Int32.toInt_inj.mp (by rw [nI_toInt (by omega)]; omega)
theorem r_vp {k n : Nat} (h : k < n) (hn : n < 2 ^ 31) : vp_in (nI k) n := by
  unfold vp_in
  rw [nI_clamp (by omega)]
  rintro (h1 | h1)
  · exact nI_pos (by omega) h1
  · omega
theorem r_mu (a b : Nat) : nI a * nI b = nI (a * b) := (Int32.ofNat_mul a b).symm
theorem r_ad (a b : Nat) : nI a + nI b = nI (a + b) := (Int32.ofNat_add a b).symm
theorem r_i4 (e : Nat) : Int32.ofInt 4 * nI e = nI (4 * e) := by rw [show Int32.ofInt 4 = nI 4 by decide, r_mu]
theorem r_i5 (e : Nat) : Int32.ofInt 4 * nI e + Int32.ofInt 1 = nI (4 * e + 1) := by rw [r_i4, show Int32.ofInt 1 = nI 1 by decide, r_ad]
theorem r_in {d C z : Nat} {w : Int32} {m : xM} {P : Option Value → xM → Prop} (hI : gI tS tR m) (hj : jM m) : ∀ j e b : Nat, e + j = 12 → z ≤ b → b < 256 → ∀ (l : List (Nat × Value)) (f : Nat), lkl 0 l = some (.ref 314) → lkl 1 l = some (.int w) → lkl 3 l = some (.int (nI b)) → lkl 5 l = some (.int (nI z)) → lkl 6 l = some (.int (nI e)) → (∀ (l' : List (Nat × Value)) (f' b' : Nat), z ≤ b' → b' < 256 → lkl 0 l' = some (.ref 314) → lkl 1 l' = some (.int w) → lkl 3 l' = some (.int (nI b')) → lkl 5 l' = some (.int (nI z)) → C ≤ f' → xe 240 (xw (d + 1)) P f' 104 l' [] m) → 80 * (j + 1) + C ≤ f → xe 240 (xw (d + 1)) P f 18 l [] m := by
  have hR := hI.2
  have hs : (0 : Int) ≤ (m.1 314 26).toInt ∧ (m.1 314 26).toInt ≤ 12 := hI.1 314 26
  intro j
  induction j with
  | zero =>
    intro e b he hz hb l f h0 h1 h3 h5 h6 hP hf
    obtain ⟨n, rfl⟩ : ∃ n, f = n + 10 := ⟨f - 10, by omega⟩
    refine s_ild2 rfl h6 ?_
    refine s_ald rfl h0 ?_
    refine s_gfI rfl rfl (Or.inl rfl) rfl ?_
    refine s_icm rfl (fun c => ?_) (fun c => ?_)
    · exact hP l _ b hz hb h0 h1 h3 h5 (by omega)
    · have c : ¬ (m.1 314 26).toInt ≤ (nI e).toInt := c
      rw [nI_toInt (by omega)] at c
      omega
  | succ j ih =>
    intro e b he hz hb l f h0 h1 h3 h5 h6 hP hf
    have tail : ∀ (b' : Nat) (l9 : List (Nat × Value)) (f9 : Nat), z ≤ b' → b' < 256 → lkl 0 l9 = some (.ref 314) → lkl 1 l9 = some (.int w) → lkl 3 l9 = some (.int (nI b')) → lkl 5 l9 = some (.int (nI z)) → lkl 6 l9 = some (.int (nI e)) → 80 * (j + 1) + C + 2 ≤ f9 → xe 240 (xw (d + 1)) P f9 98 l9 [] m := by
      intro b' l9 f9 g1 g2 g3 g4 g5 g6 g7 g8
      obtain ⟨n9, rfl⟩ : ∃ n, f9 = n + 2 := ⟨f9 - 2, by omega⟩
      refine s_inc rfl (by decide) g7 ?_
      refine s_goto rfl ?_
      rw [show Int32.ofInt 1 = nI 1 by decide, r_ad]
      exact ih (e + 1) b' (by omega) g1 g2 _ n9 (sv1_ne g3 (by decide) (fun q => by cases q.2)) (sv1_ne g4 (by decide) (fun q => by cases q.2)) (sv1_ne g5 (by decide) (fun q => by cases q.2)) (sv1_ne g6 (by decide) (fun q => by cases q.2)) lkl_h hP (by omega)
    obtain ⟨n, rfl⟩ : ∃ n, f = n + 70 := ⟨f - 70, by omega⟩
    refine s_ild2 rfl h6 ?_
    refine s_ald rfl h0 ?_
    refine s_gfI rfl rfl (Or.inl rfl) rfl ?_
    refine s_icm rfl (fun c => ?_) (fun c => ?_)
    · exact hP l _ b hz hb h0 h1 h3 h5 (by omega)
    have c : ¬ (m.1 314 26).toInt ≤ (nI e).toInt := c
    rw [nI_toInt (by omega)] at c
    obtain ⟨j1, j2, -⟩ := hj.1 e (by omega) (by omega)
    have e1 := r_nI j1 (by decide)
    have e2 := r_nI j2 (by decide)
    have mid : ∀ f9, 80 * (j + 1) + C + 30 ≤ f9 → xe 240 (xw (d + 1)) P f9 70 l [] m := by
      intro f9 g8
      obtain ⟨n9, rfl⟩ : ∃ n, f9 = n + 22 := ⟨f9 - 22, by omega⟩
      refine s_ild rfl h3 ?_
      refine s_con rfl ?_
      refine s_ald rfl h0 ?_
      refine s_gfR (b := 320) rfl rfl rfl rfl (hR 314 19 _ rfl) ?_
      refine s_con rfl ?_
      refine s_ild2 rfl h6 ?_
      refine s_mul rfl ?_
      rw [r_i4]
      refine s_ial (N := 48) rfl rfl (r_vp (by omega) (by decide)) ?_
      rw [nI_clamp (by omega)]
      refine s_shl rfl ?_
      refine s_con rfl ?_
      refine s_ald rfl h0 ?_
      refine s_gfR (b := 320) rfl rfl rfl rfl (hR 314 19 _ rfl) ?_
      refine s_con rfl ?_
      refine s_ild2 rfl h6 ?_
      refine s_mul rfl ?_
      refine s_con rfl ?_
      refine s_add rfl ?_
      rw [r_i5]
      refine s_ial (N := 48) rfl rfl (r_vp (by omega) (by decide)) ?_
      rw [nI_clamp (by omega)]
      refine s_shl rfl ?_
      refine s_or rfl ?_
      refine s_or rfl ?_
      refine s_ist rfl (by decide) ?_
      rw [e1, e2, r_sh _ (by omega), r_sh _ (by omega), fa_or, fa_or]
      have q1 := Nat.or_lt_two_pow (r_lt (m.1 320 (4 * e)).toInt.toNat (by omega)) (r_lt (m.1 320 (4 * e + 1)).toInt.toNat (by omega))
      have q2 := Nat.or_lt_two_pow (n := 8) (show b < 2 ^ 8 from hb) q1
      have q3 : b ≤ b ||| (2 ^ (m.1 320 (4 * e)).toInt.toNat ||| 2 ^ (m.1 320 (4 * e + 1)).toInt.toNat) := Nat.left_le_or
      exact tail _ _ n9 (Nat.le_trans hz q3) q2 (sv1_ne h0 (by decide) (fun q => by cases q.2)) (sv1_ne h1 (by decide) (fun q => by cases q.2)) lkl_h (sv1_ne h5 (by decide) (fun q => by cases q.2)) (sv1_ne h6 (by decide) (fun q => by cases q.2)) (by omega)
    refine s_ild rfl h1 ?_
    refine s_ild2 rfl h6 ?_
    refine s_is (j := 156) (r := []) rfl rfl rfl (by decide) rfl rfl ?_
    refine has_any (fun r hr => ?_)
    refine s_if rfl (fun c2 => ?_) (fun c2 => ?_)
    · exact tail b l _ hz hb h0 h1 h3 h5 h6 (by omega)
    refine s_ild rfl h3 ?_
    refine s_ald rfl h0 ?_
    refine s_gfR (b := 320) rfl rfl rfl rfl (hR 314 19 _ rfl) ?_
    refine s_con rfl ?_
    refine s_ild2 rfl h6 ?_
    refine s_mul rfl ?_
    rw [r_i4]
    refine s_ial (N := 48) rfl rfl (r_vp (by omega) (by decide)) ?_
    refine s_is (j := 156) (r := []) rfl rfl rfl (by decide) rfl rfl ?_
    refine has_any (fun r2 hr2 => ?_)
    refine s_if rfl (fun c3 => ?_) (fun c3 => ?_)
    · exact mid _ (by omega)
    refine s_ild rfl h3 ?_
    refine s_ald rfl h0 ?_
    refine s_gfR (b := 320) rfl rfl rfl rfl (hR 314 19 _ rfl) ?_
    refine s_con rfl ?_
    refine s_ild2 rfl h6 ?_
    refine s_mul rfl ?_
    refine s_con rfl ?_
    refine s_add rfl ?_
    rw [r_i5]
    refine s_ial (N := 48) rfl rfl (r_vp (by omega) (by decide)) ?_
    refine s_is (j := 156) (r := []) rfl rfl rfl (by decide) rfl rfl ?_
    refine has_any (fun r3 hr3 => ?_)
    refine s_if rfl (fun c4 => ?_) (fun c4 => ?_)
    · exact tail b l _ hz hb h0 h1 h3 h5 h6 (by omega)
    · exact mid _ (by omega)
theorem r_out {d : Nat} {w : Int32} {m : xM} {P : Option Value → xM → Prop} (hI : gI tS tR m) (hj : jM m) (hP : ∀ b : Nat, b < 256 → P (some (.int (nI b))) m) : ∀ k b : Nat, 256 ≤ b + k → b < 256 → ∀ (l : List (Nat × Value)) (f : Nat), lkl 0 l = some (.ref 314) → lkl 1 l = some (.int w) → lkl 3 l = some (.int (nI b)) → lkl 4 l = some (.int 1) → 1200 * k + 10 ≤ f → xe 240 (xw (d + 1)) P f 7 l [] m := by
  intro k
  induction k with
  | zero => intro b h1 h2; omega
  | succ k ih =>
    intro b hb hb2 l f h0 h1 h3 h4 hf
    obtain ⟨n, rfl⟩ : ∃ n, f = n + 12 := ⟨f - 12, by omega⟩
    refine s_ild2 rfl h4 ?_
    refine s_if rfl (fun c => absurd (show (1 : Int32).toInt = 0 from c) (by decide)) (fun c => ?_)
    refine s_ild rfl h3 ?_
    refine s_ist2 rfl (by decide) ?_
    refine s_con rfl ?_
    refine s_ist2 rfl (by decide) ?_
    have k0 := sv1_ne (i := 6) (v := .int (Int32.ofInt 0)) (sv1_ne (i := 5) (v := .int (nI b)) h0 (by decide) (fun q => by cases q.2)) (by decide) (fun q => by cases q.2)
    have k1 := sv1_ne (i := 6) (v := .int (Int32.ofInt 0)) (sv1_ne (i := 5) (v := .int (nI b)) h1 (by decide) (fun q => by cases q.2)) (by decide) (fun q => by cases q.2)
    have k3 := sv1_ne (i := 6) (v := .int (Int32.ofInt 0)) (sv1_ne (i := 5) (v := .int (nI b)) h3 (by decide) (fun q => by cases q.2)) (by decide) (fun q => by cases q.2)
    have k5 : lkl 5 (sv1 6 (.int (Int32.ofInt 0)) (sv1 5 (.int (nI b)) l)) = some (.int (nI b)) := sv1_ne lkl_h (by decide) (fun q => by cases q.2)
    refine r_in (C := 1200 * k + 30) (z := b) hI hj 12 0 b (by omega) (Nat.le_refl _) hb2 _ _ k0 k1 k3 k5 lkl_h (fun l' f' b' g1 g2 g3 g4 g5 g6 g7 => ?_) (by omega)
    obtain ⟨n', rfl⟩ : ∃ n, f' = n + 20 := ⟨f' - 20, by omega⟩
    refine s_ild rfl g5 ?_
    refine s_ild2 rfl g6 ?_
    refine s_icm rfl (fun c => ?_) (fun c => ?_)
    · refine s_con rfl ?_
      refine s_ist2 rfl (by decide) ?_
      refine s_goto rfl ?_
      refine s_ild2 rfl lkl_h ?_
      refine s_if rfl (fun c2 => ?_) (fun c2 => absurd (show (Int32.ofInt 0).toInt = 0 by decide) c2)
      refine s_ild rfl (sv1_ne g5 (by decide) (fun q => by cases q.2)) ?_
      exact s_ret rfl (Or.inl rfl) (hP b' g2)
    · have c : ¬ (nI b').toInt = (nI b).toInt := c
      rw [nI_toInt (by omega), nI_toInt (by omega)] at c
      refine s_con rfl ?_
      refine s_goto rfl ?_
      refine s_ist2 rfl (by decide) ?_
      refine s_goto rfl ?_
      exact ih b' (by omega) g2 _ _ (sv1_ne g3 (by decide) (fun q => by cases q.2)) (sv1_ne g4 (by decide) (fun q => by cases q.2)) (sv1_ne g5 (by decide) (fun q => by cases q.2)) lkl_h (by omega)
def rchc : aCt := (240, [aR [314], aIt, aI 0 7], [], [(some (aI 0 255), [(lLo, lHi), (lLo, lHi), (lLo, lHi)], [])], [])
theorem rch_ok : vC tS tR jM 2 rchc := by
  intro d hd m vs P hI hj hv hF hP
  obtain ⟨d, rfl⟩ : ∃ e, d = e + 2 := ⟨d - 2, by omega⟩
  match vs, hv with
  | [v0, v1, v2], hv =>
    obtain ⟨b0, rfl, h0⟩ := aH_ref hv.1 rfl
    obtain rfl : b0 = 314 := List.mem_singleton.mp h0
    obtain ⟨w, rfl, -, -⟩ := aH_int hv.2.1 rfl
    obtain ⟨fr, rfl, h2, -⟩ := aH_int hv.2.2.1 rfl
    have h2 : (0 : Int) ≤ fr.toInt ∧ fr.toInt ≤ 7 := h2
    have full : ∀ v9 : Value, v9.category = 1 → (∀ z9, v9 = .int z9 → lLo ≤ z9.toInt ∧ z9.toInt ≤ lHi) ∧ ∀ w9, v9 = .long w9 → lLo ≤ w9.toInt ∧ w9.toInt ≤ lHi := fun v9 h9 => ⟨fun z9 _ => by have := i32_rng z9; unfold iLo iHi at this; unfold lLo lHi; omega, fun w9 e9 => by rw [e9] at h9; cases h9⟩
    have e1 := r_nI h2 (by decide)
    refine ⟨rfl, rfl, (by show 3 ≤ 7; decide), 1200 * 256 + 30, ?_⟩
    refine s_con rfl ?_
    refine s_ild rfl rfl ?_
    refine s_shl rfl ?_
    refine s_ist rfl (by decide) ?_
    refine s_con rfl ?_
    refine s_ist2 rfl (by decide) ?_
    rw [e1, r_sh _ (by omega)]
    exact r_out hI hj (fun b hb => hP _ _ ⟨hI, fun a i _ => rfl, _, List.mem_singleton.mpr rfl, ⟨_, rfl, Or.inr (Or.inl ⟨rfl, _, rfl, ⟨by show (0 : Int) ≤ _; rw [nI_toInt (by omega)]; omega, by show _ ≤ (255 : Int); rw [nI_toInt (by omega)]; omega⟩, trivial⟩)⟩, ⟨full _ rfl, full _ rfl, full _ rfl, trivial⟩, gF_nil⟩) 256 _ (Nat.le_add_left 256 _) (r_lt _ (by omega)) _ _ rfl rfl rfl rfl (by omega)
  | [], hv => exact hv.elim
  | [_], hv => exact hv.2.elim
  | [_, _], hv => exact hv.2.2.elim
  | _ :: _ :: _ :: _ :: _, hv => exact hv.2.2.2.elim
