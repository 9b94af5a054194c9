/-! L2: remember of the reference -/
theorem ni_of {x : Int32} {A : Nat} (h : x.toInt = A) (hA : A < 2 ^ 31) : x = nI A := Int32.toInt_inj.mp (by rw [h, nI_toInt hA])
theorem ni_mu (a b : Nat) : nI a * nI b = nI (a * b) := (Int32.ofNat_mul a b).symm
theorem ni_ad (a b : Nat) : nI a + nI b = nI (a + b) := (Int32.ofNat_add a b).symm
theorem vp_nI {k n : Nat} (h : k < n) (hn : n < 2 ^ 31) : vp_in (nI k) n := by
  unfold vp_in
  rw [nI_clamp (by omega)]
  rintro (h1 | h1)
  · exact nI_pos (by omega) h1
  · omega
def lk1 (k : Nat) : List (Nat × Value) := [(1, .int (nI k)), (0, .ref 314)]
theorem lk1_s {k : Nat} : sv1 1 (.int (nI k + Int32.ofInt 1)) (lk1 k) = lk1 (k + 1) := by
  show [(1, Value.int (nI k + 1)), (0, .ref 314)] = [(1, .int (nI (k + 1))), (0, .ref 314)]
  rw [nI_succ]
theorem u_seg {A k : Nat} (hA : A < 40) (hk : k < 208) : gseg (208 * A + k) (tS 331) = gseg k (tS 326) := by
  have h := gseg_u hk (n := 40) (a := A) (b := 0) hA
  rw [Nat.zero_add] at h
  exact h
theorem mI_on {m : xM} {a i : Nat} {v : Int32} : (mI m a i v).1 a i = v := u2_on
theorem mI_off {m : xM} {a i b j : Nat} {v : Int32} (h : ¬ (b = a ∧ j = i)) : (mI m a i v).1 b j = m.1 b j := u2_off h
theorem gI_mI {m : xM} {a i : Nat} {v : Int32} (hI : gI tS tR m) (hv : (gseg i (tS a)).1 ≤ v.toInt ∧ v.toInt ≤ (gseg i (tS a)).2) : gI tS tR (mI m a i v) := gI_w (a := a) (i := i) hI rfl (fun b j h => mI_off h) (by rw [mI_on]; exact hv)
set_option maxHeartbeats 16000000 in
theorem rem_l2 {ca : Nat → List Value → xM → (Option Value → xM → Prop) → Prop} {P : Option Value → xM → Prop} {A C : Nat} (hA : A < 40) : ∀ j k : Nat, k + j = 208 → ∀ (m : xM) (f : Nat), gI tS tR m → (m.1 314 42).toInt = A → (∀ (m' : xM) (f' : Nat), gI tS tR m' → (∀ a i, ¬ a = 331 → m'.1 a i = m.1 a i) → C ≤ f' → xe 210 ca P f' 86 (lk1 208) [] m') → (j + 1) * 18 + C ≤ f → xe 210 ca P f 52 (lk1 k) [] m := by
  intro j
  induction j with
  | zero =>
    intro k hk m f hI hm hP hf
    obtain rfl : k = 208 := by omega
    obtain ⟨n, rfl⟩ : ∃ n, f = n + 3 := ⟨f - 3, by omega⟩
    refine s_ild rfl rfl ?_
    refine s_sip rfl ?_
    refine s_icm rfl (fun c56 => ?_) (fun c56 => ?no56)
    case no56 => exact absurd (show cnB .ge (nI 208).toInt (Int16.ofInt 208).toInt32.toInt from (by decide : (Int16.ofInt 208).toInt32.toInt ≤ (nI 208).toInt)) c56
    exact hP m n hI (fun a i _ => rfl) (by omega)
  | succ j ih =>
    intro k hk m f hI hm hP hf
    obtain ⟨n, rfl⟩ : ∃ n, f = n + 18 := ⟨f - 18, by omega⟩
    have hR := hI.2
    have em := ni_of hm (by omega)
    have e1 : (Int16.ofInt 208).toInt32 * m.1 314 42 + nI k = nI (208 * A + k) := by
      rw [em, show (Int16.ofInt 208).toInt32 = nI 208 by decide, ni_mu, ni_ad]
    refine s_ild rfl rfl ?_
    refine s_sip rfl ?_
    refine s_icm rfl (fun c56 => ?no56) (fun c56 => ?_)
    case no56 =>
      have h1 : (Int16.ofInt 208).toInt32.toInt ≤ (nI k).toInt := c56
      rw [nI_toInt (by omega), show (Int16.ofInt 208).toInt32.toInt = 208 by decide] at h1
      omega
    refine s_ald rfl rfl ?_
    refine s_gfR (b := 331) rfl rfl rfl rfl (hR 314 41 _ rfl) ?_
    refine s_sip rfl ?_
    refine s_ald rfl rfl ?_
    refine s_gfI rfl rfl (Or.inl rfl) rfl ?_
    refine s_mul rfl ?_
    refine s_ild rfl rfl ?_
    refine s_add rfl ?_
    refine s_ald rfl rfl ?_
    refine s_gfR (b := 326) rfl rfl rfl rfl (hR 314 32 _ rfl) ?_
    refine s_ild rfl rfl ?_
    refine s_ial (N := 208) rfl rfl ?hv78 ?_
    case hv78 => exact vp_nI (by omega) (by decide)
    rw [e1]
    refine s_ias (N := 8320) rfl rfl ?hv79 ?_
    case hv79 => exact vp_nI (by omega) (by decide)
    refine s_inc rfl (by decide) rfl ?_
    refine s_goto rfl ?_
    rw [lk1_s, nI_clamp (by omega), nI_clamp (by omega)]
    have hv : (gseg (208 * A + k) (tS 331)).1 ≤ (m.1 326 k).toInt ∧ (m.1 326 k).toInt ≤ (gseg (208 * A + k) (tS 331)).2 := by
      rw [u_seg hA (by omega)]
      exact hI.1 326 k
    have hI' := gI_mI hI hv
    have hm' : ((mI m 331 (208 * A + k) (m.1 326 k)).1 314 42).toInt = A := by
      rw [mI_off (fun z => absurd z.1 (by decide))]
      exact hm
    refine ih (k + 1) (by omega) _ n hI' hm' (fun m' f' h1 h2 h3 => hP m' f' h1 (fun a i ha => ?_) h3) (by omega)
    rw [h2 a i ha, mI_off (fun z => ha z.1)]
