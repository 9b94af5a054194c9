/-! L2: arithmetic by intervals -/
theorem bm32 {z : Int} (h : iLo ≤ z ∧ z ≤ iHi) : z.bmod (2 ^ 32) = z := by
  unfold iLo iHi at h
  exact Int.bmod_eq_of_le (by omega) (by omega)
theorem bm64 {z : Int} (h : lLo ≤ z ∧ z ≤ lHi) : z.bmod (2 ^ 64) = z := by
  unfold lLo lHi at h
  exact Int.bmod_eq_of_le (by omega) (by omega)
theorem add_ok {x y : Int32} (h : iLo ≤ x.toInt + y.toInt ∧ x.toInt + y.toInt ≤ iHi) : (x + y).toInt = x.toInt + y.toInt := by rw [Int32.toInt_add, bm32 h]
theorem sub_ok {x y : Int32} (h : iLo ≤ x.toInt - y.toInt ∧ x.toInt - y.toInt ≤ iHi) : (x - y).toInt = x.toInt - y.toInt := by rw [Int32.toInt_sub, bm32 h]
theorem mul_ok {x y : Int32} (h : iLo ≤ x.toInt * y.toInt ∧ x.toInt * y.toInt ≤ iHi) : (x * y).toInt = x.toInt * y.toInt := by rw [Int32.toInt_mul, bm32 h]
theorem neg_ok {x : Int32} (h : iLo ≤ -x.toInt ∧ -x.toInt ≤ iHi) : (-x).toInt = -x.toInt := by rw [Int32.toInt_neg, bm32 h]
theorem addl_ok {x y : Int64} (h : lLo ≤ x.toInt + y.toInt ∧ x.toInt + y.toInt ≤ lHi) : (x + y).toInt = x.toInt + y.toInt := by rw [Int64.toInt_add, bm64 h]
theorem subl_ok {x y : Int64} (h : lLo ≤ x.toInt - y.toInt ∧ x.toInt - y.toInt ≤ lHi) : (x - y).toInt = x.toInt - y.toInt := by rw [Int64.toInt_sub, bm64 h]
theorem mull_ok {x y : Int64} (h : lLo ≤ x.toInt * y.toInt ∧ x.toInt * y.toInt ≤ lHi) : (x * y).toInt = x.toInt * y.toInt := by rw [Int64.toInt_mul, bm64 h]
theorem inI_of {lo hi : Int} (h : inI lo hi = true) : iLo ≤ lo ∧ hi ≤ iHi := by
  unfold inI at h
  simp only [Bool.and_eq_true, ile_iff] at h
  exact h
theorem inL_of {lo hi : Int} (h : inL lo hi = true) : lLo ≤ lo ∧ hi ≤ lHi := by
  unfold inL at h
  simp only [Bool.and_eq_true, ile_iff] at h
  exact h
section GAR
variable {s0 : Nat → Int} {l : List (Nat × Value)} {m : xM}
theorem aG_rIt {z : Int32} {lo hi : Int} {t : Option (Nat × Int)} (h : iLo ≤ lo → hi ≤ iHi → (lo ≤ z.toInt ∧ z.toInt ≤ hi) ∧ tOk s0 z t) : aG s0 l m (.int z) (rIt lo hi t) := by
  unfold rIt
  cases e : inI lo hi with
  | true =>
    obtain ⟨h1, h2⟩ := inI_of e
    obtain ⟨h3, h4⟩ := h h1 h2
    exact ⟨aH_I rfl h3 h4, sK_0 rfl⟩
  | false => exact aG_It
theorem aG_rI {z : Int32} {lo hi : Int} (h : iLo ≤ lo → hi ≤ iHi → (lo ≤ z.toInt ∧ z.toInt ≤ hi)) : aG s0 l m (.int z) (rI lo hi) := by
  unfold rI
  cases e : inI lo hi with
  | true =>
    obtain ⟨h1, h2⟩ := inI_of e
    exact aG_I (h h1 h2)
  | false => exact aG_It
theorem aG_rL {z : Int64} {lo hi : Int} (h : lLo ≤ lo → hi ≤ lHi → (lo ≤ z.toInt ∧ z.toInt ≤ hi)) : aG s0 l m (.long z) (rL lo hi) := by
  unfold rL
  cases e : inL lo hi with
  | true =>
    obtain ⟨h1, h2⟩ := inL_of e
    exact aG_L (h h1 h2)
  | false => exact aG_Lt
theorem cst1_of {v : aV} {d : Int} (h : cst1 v = some d) : v.2.2.1 = d ∧ v.2.2.2.1 = d := by
  unfold cst1 at h
  obtain ⟨h1, h2⟩ := bif_t h
  cases h2
  simp only [Bool.and_eq_true, ile_iff] at h1
  omega
theorem tgA_ok {x z : Int32} {d : Int} {t : Option (Nat × Int)} (h : tOk s0 x t) (e : z.toInt = x.toInt + d) : tOk s0 z (tgA d t) := by
  cases t with
  | none => trivial
  | some p =>
    obtain ⟨j, c⟩ := p
    have h : x.toInt = s0 j + c := h
    show z.toInt = s0 j + (c + d)
    omega
theorem aG_add {x y : Int32} {xa ya : aV} (hx : xa.2.2.1 ≤ x.toInt ∧ x.toInt ≤ xa.2.2.2.1) (tx : tOk s0 x xa.2.2.2.2.2) (hy : ya.2.2.1 ≤ y.toInt ∧ y.toInt ≤ ya.2.2.2.1) (ty : tOk s0 y ya.2.2.2.2.2) : aG s0 l m (.int (x + y)) (addA xa ya) := by
  unfold addA
  refine aG_rIt (fun h1 h2 => ?_)
  have e : (x + y).toInt = x.toInt + y.toInt := add_ok (by omega)
  refine ⟨by omega, ?_⟩
  split
  · rename_i d hd
    obtain ⟨h3, h4⟩ := cst1_of hd
    exact tgA_ok tx (by omega)
  · split
    · rename_i d hd
      obtain ⟨h3, h4⟩ := cst1_of hd
      exact tgA_ok ty (by omega)
    · trivial
theorem aG_sub {x y : Int32} {xa ya : aV} (hx : xa.2.2.1 ≤ x.toInt ∧ x.toInt ≤ xa.2.2.2.1) (tx : tOk s0 x xa.2.2.2.2.2) (hy : ya.2.2.1 ≤ y.toInt ∧ y.toInt ≤ ya.2.2.2.1) : aG s0 l m (.int (x - y)) (subA xa ya) := by
  unfold subA
  refine aG_rIt (fun h1 h2 => ?_)
  have e : (x - y).toInt = x.toInt - y.toInt := sub_ok (by omega)
  refine ⟨by omega, ?_⟩
  split
  · rename_i d hd
    obtain ⟨h3, h4⟩ := cst1_of hd
    exact tgA_ok tx (by omega)
  · trivial
theorem lin_b {a c d y : Int} (h : c ≤ y ∧ y ≤ d) : imin (a * c) (a * d) ≤ a * y ∧ a * y ≤ imax (a * c) (a * d) := by
  have h1 := imin_l (a := a * c) (b := a * d)
  have h2 := imax_l (a := a * c) (b := a * d)
  by_cases ha : 0 ≤ a
  · have h3 := Int.mul_le_mul_of_nonneg_left h.1 ha
    have h4 := Int.mul_le_mul_of_nonneg_left h.2 ha
    omega
  · have h3 := Int.mul_le_mul_of_nonpos_left (a := a) (by omega) h.1
    have h4 := Int.mul_le_mul_of_nonpos_left (a := a) (by omega) h.2
    omega
theorem mulB_ok {a b c d x y : Int} (hx : a ≤ x ∧ x ≤ b) (hy : c ≤ y ∧ y ≤ d) : (mulB a b c d).1 ≤ x * y ∧ x * y ≤ (mulB a b c d).2 := by
  have h1 := lin_b (a := a) hy
  have h2 := lin_b (a := b) hy
  have h3 := lin_b (a := y) hx
  have e1 : y * a = a * y := Int.mul_comm _ _
  have e2 : y * b = b * y := Int.mul_comm _ _
  have e3 : y * x = x * y := Int.mul_comm _ _
  rw [e1, e2, e3] at h3
  have h4 := imin_l (a := imin (a * c) (a * d)) (b := imin (b * c) (b * d))
  have h5 := imax_l (a := imax (a * c) (a * d)) (b := imax (b * c) (b * d))
  have h6 := imin_c (a := a * y) (b := b * y)
  have h7 := imax_c (a := a * y) (b := b * y)
  show imin (imin (a * c) (a * d)) (imin (b * c) (b * d)) ≤ _ ∧ _ ≤ imax (imax (a * c) (a * d)) (imax (b * c) (b * d))
  generalize imin (imin (a * c) (a * d)) (imin (b * c) (b * d)) = u1 at *
  generalize imax (imax (a * c) (a * d)) (imax (b * c) (b * d)) = u2 at *
  generalize imin (a * c) (a * d) = u3 at *
  generalize imin (b * c) (b * d) = u4 at *
  generalize imax (a * c) (a * d) = u5 at *
  generalize imax (b * c) (b * d) = u6 at *
  generalize imin (a * y) (b * y) = u7 at *
  generalize imax (a * y) (b * y) = u8 at *
  generalize a * y = v1 at *
  generalize b * y = v2 at *
  generalize x * y = v3 at *
  omega
theorem aG_mul {x y : Int32} {xa ya : aV} (hx : xa.2.2.1 ≤ x.toInt ∧ x.toInt ≤ xa.2.2.2.1) (hy : ya.2.2.1 ≤ y.toInt ∧ y.toInt ≤ ya.2.2.2.1) : aG s0 l m (.int (x * y)) (mulA xa ya) := by
  unfold mulA
  refine aG_rI (fun h1 h2 => ?_)
  have h3 := mulB_ok hx hy
  have e : (x * y).toInt = x.toInt * y.toInt := mul_ok ⟨Int.le_trans h1 h3.1, Int.le_trans h3.2 h2⟩
  rw [e]
  exact h3
theorem nn_of {x : Int32} (h : 0 ≤ x.toInt) : ∃ n : Nat, n < 2 ^ 31 ∧ x = nI n ∧ x.toInt = n := by
  obtain ⟨n, h1, h2⟩ := nI_of (x := x) (fun z => by
    have := Int32.lt_iff_toInt_lt.mp z
    have e0 : (0 : Int32).toInt = 0 := by decide
    omega)
  exact ⟨n, h1, h2, by rw [h2, nI_toInt h1]⟩
theorem and_ok {x y : Int32} (h : 0 ≤ y.toInt) : 0 ≤ (x &&& y).toInt ∧ (x &&& y).toInt ≤ y.toInt := by
  obtain ⟨n, h1, h2, h3⟩ := nn_of h
  obtain ⟨k, hk, e⟩ := wb_of32 x
  subst e
  rw [h2, fa_and, nI_toInt (Nat.lt_of_le_of_lt Nat.and_le_right h1), nI_toInt h1]
  have : k &&& n ≤ n := Nat.and_le_right
  omega
theorem aG_and {x y : Int32} {xa ya : aV} (hx : xa.2.2.1 ≤ x.toInt ∧ x.toInt ≤ xa.2.2.2.1) (hy : ya.2.2.1 ≤ y.toInt ∧ y.toInt ≤ ya.2.2.2.1) : aG s0 l m (.int (x &&& y)) (andA xa ya) := by
  have hc : x &&& y = y &&& x := Int32.and_comm _ _
  unfold andA
  cases e : ile 0 ya.2.2.1 with
  | true =>
    have h1 := ile_iff.mp e
    have h2 := and_ok (x := x) (y := y) (by omega)
    refine aG_I ⟨h2.1, ?_⟩
    cases e2 : ile 0 xa.2.2.1 with
    | true =>
      have h3 := ile_iff.mp e2
      have h4 := and_ok (x := y) (y := x) (by omega)
      rw [← hc] at h4
      show _ ≤ imin xa.2.2.2.1 ya.2.2.2.1
      rcases imin_c (a := xa.2.2.2.1) (b := ya.2.2.2.1) with c | c <;> rw [c] <;> omega
    | false =>
      show _ ≤ ya.2.2.2.1
      omega
  | false =>
    cases e2 : ile 0 xa.2.2.1 with
    | true =>
      have h3 := ile_iff.mp e2
      have h4 := and_ok (x := y) (y := x) (by omega)
      rw [← hc] at h4
      exact aG_I ⟨h4.1, by omega⟩
    | false => exact aG_It
theorem pw_t : ∀ n, n < 31 → (2147483647 : Int) / (2 ^ n : Nat) = ((2 ^ (31 - n) - 1 : Nat) : Int) := by decide
theorem pw2_ok : ∀ {n : Nat} {h : Int}, n ≤ 31 → h ≤ 2147483647 → ∃ k, k ≤ 31 ∧ pw2 n h = ((2 ^ k - 1 : Nat) : Int) ∧ h ≤ pw2 n h
  | 0, h, _, hh => ⟨31, Nat.le_refl _, by unfold pw2; decide, hh⟩
  | n + 1, h, hn, hh => by
    unfold pw2
    cases e : ile h (2147483647 / (2 ^ n : Nat)) with
    | true => exact ⟨31 - n, by omega, pw_t n (by omega), ile_iff.mp e⟩
    | false => exact pw2_ok (by omega) hh
theorem pw_big : ∀ {n : Nat} {h : Int}, ¬ h ≤ 2147483647 → pw2 n h = 2147483647
  | 0, h, _ => rfl
  | n + 1, h, hh => by
    unfold pw2
    have e : ile h (2147483647 / (2 ^ n : Nat)) = false := by
      cases e : ile h (2147483647 / (2 ^ n : Nat)) with
      | false => rfl
      | true =>
        have h1 := ile_iff.mp e
        have h2 : (2147483647 : Int) / (2 ^ n : Nat) ≤ 2147483647 := Int.ediv_le_self _ (by decide)
        omega
    rw [e]
    exact pw_big hh
theorem or_ok {x y : Int32} {z : Int32} {a : Int} (hx : 0 ≤ x.toInt ∧ x.toInt ≤ a) (hy : 0 ≤ y.toInt ∧ y.toInt ≤ a) (hz : z = x ||| y ∨ z = x ^^^ y) : 0 ≤ z.toInt ∧ z.toInt ≤ pw2 31 a := by
  obtain ⟨n, h1, h2, h3⟩ := nn_of hx.1
  obtain ⟨k, h4, h5, h6⟩ := nn_of hy.1
  by_cases ha : a ≤ 2147483647
  · obtain ⟨p, p1, p2, p3⟩ := pw2_ok (n := 31) (Nat.le_refl _) ha
    have hp : 0 < 2 ^ p := Nat.two_pow_pos p
    have hn : n < 2 ^ p := by omega
    have hk : k < 2 ^ p := by omega
    have hp2 : 2 ^ p ≤ 2 ^ 31 := Nat.pow_le_pow_right (by decide) p1
    rw [p2]
    rcases hz with hz | hz
    · have hb := Nat.or_lt_two_pow hn hk
      rw [hz, h2, h5, fa_or, nI_toInt (by omega)]
      omega
    · have hb := Nat.xor_lt_two_pow hn hk
      rw [hz, h2, h5, nx_xor, nI_toInt (by omega)]
      omega
  · have hb : n < 2 ^ 31 ∧ k < 2 ^ 31 := ⟨h1, h4⟩
    have e9 : pw2 31 a = 2147483647 := pw_big ha
    rw [e9]
    have := i32_rng z
    unfold iHi at this
    rcases hz with hz | hz
    · have hb := Nat.or_lt_two_pow h1 h4
      have : z.toInt = ((n ||| k : Nat) : Int) := by rw [hz, h2, h5, fa_or, nI_toInt hb]
      omega
    · have hb := Nat.xor_lt_two_pow h1 h4
      have : z.toInt = ((n ^^^ k : Nat) : Int) := by rw [hz, h2, h5, nx_xor, nI_toInt hb]
      omega
theorem aG_or {x y z : Int32} {xa ya : aV} (hx : xa.2.2.1 ≤ x.toInt ∧ x.toInt ≤ xa.2.2.2.1) (hy : ya.2.2.1 ≤ y.toInt ∧ y.toInt ≤ ya.2.2.2.1) (hz : z = x ||| y ∨ z = x ^^^ y) : aG s0 l m (.int z) (orA xa ya) := by
  unfold orA
  cases e : (ile 0 xa.2.2.1 && ile 0 ya.2.2.1) with
  | false => exact aG_It
  | true =>
    simp only [Bool.and_eq_true, ile_iff] at e
    have h1 := imax_l (a := xa.2.2.2.1) (b := ya.2.2.2.1)
    exact aG_I (or_ok ⟨by omega, by omega⟩ ⟨by omega, by omega⟩ hz)
theorem aG_ori {x y : Int32} {xa ya : aV} (hx : xa.2.2.1 ≤ x.toInt ∧ x.toInt ≤ xa.2.2.2.1) (hy : ya.2.2.1 ≤ y.toInt ∧ y.toInt ≤ ya.2.2.2.1) : aG s0 l m (.int (x ||| y)) (orB xa ya) := by
  unfold orB
  cases e : (ile 0 xa.2.2.1 && ile 0 ya.2.2.1) with
  | false => exact aG_It
  | true =>
    simp only [Bool.and_eq_true, ile_iff] at e
    have h1 := imax_l (a := xa.2.2.2.1) (b := ya.2.2.2.1)
    have h2 := imax_c (a := xa.2.2.1) (b := ya.2.2.1)
    have h9 := or_ok (z := x ||| y) (a := imax xa.2.2.2.1 ya.2.2.2.1) ⟨by omega, by omega⟩ ⟨by omega, by omega⟩ (Or.inl rfl)
    refine aG_I ⟨?_, h9.2⟩
    obtain ⟨n, k1, k2, k3⟩ := nn_of (x := x) (by omega)
    obtain ⟨k, k4, k5, k6⟩ := nn_of (x := y) (by omega)
    have hb := Nat.or_lt_two_pow k1 k4
    have e9 : (x ||| y).toInt = ((n ||| k : Nat) : Int) := by rw [k2, k5, fa_or, nI_toInt hb]
    have g1 : n ≤ n ||| k := Nat.left_le_or
    have g2 : k ≤ n ||| k := Nat.right_le_or
    rw [e9]
    omega
theorem sl_of {y : Int32} {k : Nat} (h : y = nI k) (hk : k < 32) : ((y &&& 31).toBitVec.smod 32).toNat = k := by rw [h]; exact s_l k hk
theorem aG_shl {x y : Int32} {xa ya : aV} (hx : xa.2.2.1 ≤ x.toInt ∧ x.toInt ≤ xa.2.2.2.1) (hy : ya.2.2.1 ≤ y.toInt ∧ y.toInt ≤ ya.2.2.2.1) : aG s0 l m (.int (x <<< (y &&& 31))) (shlA xa ya) := by
  unfold shlA
  cases e : (ile 0 xa.2.2.1 && (ile 0 ya.2.2.1 && (ile ya.2.2.2.1 30 && ile (xa.2.2.2.1 * (2 ^ ya.2.2.2.1.toNat : Nat)) iHi))) with
  | false => exact aG_It
  | true =>
    simp only [Bool.and_eq_true, ile_iff] at e
    obtain ⟨e1, e2, e3, e4⟩ := e
    obtain ⟨n, h1, h2, h3⟩ := nn_of (x := x) (by omega)
    obtain ⟨k, h4, h5, h6⟩ := nn_of (x := y) (by omega)
    have hk : k < 32 := by omega
    have g1 : 2 ^ k ≤ 2 ^ ya.2.2.2.1.toNat := Nat.pow_le_pow_right (by decide) (by omega)
    have g2 : 2 ^ ya.2.2.1.toNat ≤ 2 ^ k := Nat.pow_le_pow_right (by decide) (by omega)
    have g3 : (n : Int) * (2 ^ k : Nat) ≤ xa.2.2.2.1 * (2 ^ ya.2.2.2.1.toNat : Nat) := Int.mul_le_mul (by omega) (Int.ofNat_le.mpr g1) (Int.natCast_nonneg _) (by omega)
    have g4 : xa.2.2.1 * (2 ^ ya.2.2.1.toNat : Nat) ≤ (n : Int) * (2 ^ k : Nat) := Int.mul_le_mul (by omega) (Int.ofNat_le.mpr g2) (Int.natCast_nonneg _) (by omega)
    have g5 : ((n * 2 ^ k : Nat) : Int) = (n : Int) * (2 ^ k : Nat) := Int.natCast_mul _ _
    unfold iHi at e4
    have g6 : n * 2 ^ k < 2 ^ 31 := by omega
    have e9 : x <<< (y &&& 31) = nI (n * 2 ^ k) := by
      rw [h2]
      exact pk_shlN _ k (sl_of h5 hk) (by omega)
    rw [e9]
    refine aG_I ?_
    rw [nI_toInt g6, g5]
    exact ⟨g4, g3⟩
theorem aG_shr {x y : Int32} {xa ya : aV} (hx : xa.2.2.1 ≤ x.toInt ∧ x.toInt ≤ xa.2.2.2.1) : aG s0 l m (.int (x >>> (y &&& 31))) (shrA xa ya) := by
  unfold shrA
  cases e : ile 0 xa.2.2.1 with
  | false => exact aG_It
  | true =>
    have h1 := ile_iff.mp e
    have h2 := pk_shr x (y &&& 31) _ rfl
    refine aG_I ?_
    rw [h2, Int.shiftRight_eq_div_pow]
    have h3 : 0 ≤ x.toInt := by omega
    refine ⟨Int.ediv_nonneg h3 (Int.natCast_nonneg _), ?_⟩
    exact Int.le_trans (Int.ediv_le_self _ h3) hx.2
theorem cst1_i {x : Int32} {xa : aV} {a : Int} (h : cst1 xa = some a) (hx : xa.2.2.1 ≤ x.toInt ∧ x.toInt ≤ xa.2.2.2.1) : x = Int32.ofInt a := by
  unfold cst1 at h
  obtain ⟨h1, h2⟩ := bif_t h
  simp only [Bool.and_eq_true, ile_iff] at h1
  cases h2
  rw [show xa.2.2.1 = x.toInt by omega]
  exact (Int32.ofInt_toInt x).symm
theorem aG_ex2 {f : Int32 → Int32 → Int32} {x y : Int32} {xa ya w : aV} (hx : xa.2.2.1 ≤ x.toInt ∧ x.toInt ≤ xa.2.2.2.1) (hy : ya.2.2.1 ≤ y.toInt ∧ y.toInt ≤ ya.2.2.2.1) (h : aG s0 l m (.int (f x y)) w) : aG s0 l m (.int (f x y)) (ex2 f xa ya w) := by
  unfold ex2
  split
  · rename_i a b e1 e2
    have h1 := cst1_i e1 hx
    have h2 := cst1_i e2 hy
    subst h1 h2
    exact aG_I ⟨Int.le_refl _, Int.le_refl _⟩
  · exact h
theorem i8_rng (x : Int8) : -128 ≤ x.toInt32.toInt ∧ x.toInt32.toInt ≤ 127 := by
  rw [Int8.toInt_toInt32]
  have h1 := Int8.le_toInt x
  have h2 := Int8.toInt_lt x
  omega
theorem nar8 {u : Int32} (h : -128 ≤ u.toInt ∧ u.toInt ≤ 127) : vp_nar .byte u = u := by
  have h1 : vp_nar .byte u = u.toInt8.toInt32 := rfl
  rw [h1]
  apply Int32.toInt_inj.mp
  rw [Int8.toInt_toInt32, Int32.toInt_toInt8]
  exact Int.bmod_eq_of_le (by omega) (by omega)
theorem aG_div {x y : Int32} {xa ya : aV} (hx : xa.2.2.1 ≤ x.toInt ∧ x.toInt ≤ xa.2.2.2.1) (hy : ya.2.2.1 ≤ y.toInt ∧ y.toInt ≤ ya.2.2.2.1) : aG s0 l m (.int (x / y)) (divA xa ya) := by
  unfold divA
  cases e : (ile 0 xa.2.2.1 && ile 1 ya.2.2.1) with
  | false => exact aG_It
  | true =>
    simp only [Bool.and_eq_true, ile_iff] at e
    obtain ⟨n, h1, h2, h3⟩ := nn_of (x := x) (by omega)
    obtain ⟨k, h4, h5, h6⟩ := nn_of (x := y) (by omega)
    have g : n / k ≤ n := Nat.div_le_self _ _
    refine aG_I ?_
    rw [h2, h5, pk_div h1 (by omega) h4, nI_toInt (by omega)]
    generalize n / k = u at g ⊢
    omega
theorem ln_of {x : Int64} (h : 0 ≤ x.toInt) : ∃ n : Nat, n < 2 ^ 63 ∧ x = lN n ∧ x.toInt = n := by
  obtain ⟨n, h1, h2⟩ := pk_lOf (x := x) (fun z => by
    have := Int64.lt_iff_toInt_lt.mp z
    have e0 : (0 : Int64).toInt = 0 := by decide
    omega)
  exact ⟨n, h1, h2, by rw [h2, pk_lT h1]⟩
theorem aG_ldiv {x y : Int64} {xa ya : aV} (hx : xa.2.2.1 ≤ x.toInt ∧ x.toInt ≤ xa.2.2.2.1) (hy : ya.2.2.1 ≤ y.toInt ∧ y.toInt ≤ ya.2.2.2.1) : aG s0 l m (.long (x / y)) (bif ile 0 xa.2.2.1 && ile 1 ya.2.2.1 then aL 0 xa.2.2.2.1 else aLt) := by
  cases e : (ile 0 xa.2.2.1 && ile 1 ya.2.2.1) with
  | false => exact aG_Lt
  | true =>
    simp only [Bool.and_eq_true, ile_iff] at e
    obtain ⟨n, h1, h2, h3⟩ := ln_of (x := x) (by omega)
    obtain ⟨k, h4, h5, h6⟩ := ln_of (x := y) (by omega)
    have g : n / k ≤ n := Nat.div_le_self _ _
    refine aG_L ?_
    rw [h2, h5, pk_lDiv h1 (by omega) h4, pk_lT (by omega)]
    generalize n / k = u at g ⊢
    omega
theorem aG_lrem {x y : Int64} {xa ya : aV} (hx : xa.2.2.1 ≤ x.toInt ∧ x.toInt ≤ xa.2.2.2.1) (hy : ya.2.2.1 ≤ y.toInt ∧ y.toInt ≤ ya.2.2.2.1) (h1y : 1 ≤ ya.2.2.1) : aG s0 l m (.long (x - x / y * y)) (bif ile 0 xa.2.2.1 then aL 0 (ya.2.2.2.1 - 1) else aLt) := by
  cases e : ile 0 xa.2.2.1 with
  | false => exact aG_Lt
  | true =>
    have e := ile_iff.mp e
    obtain ⟨n, h1, h2, h3⟩ := ln_of (x := x) (by omega)
    obtain ⟨k, h4, h5, h6⟩ := ln_of (x := y) (by omega)
    have g : n % k < k := Nat.mod_lt _ (by omega)
    refine aG_L ?_
    rw [h2, h5, pk_lRem h1 (by omega) h4, pk_lT (by omega)]
    omega
theorem aG_lushr {x : Int64} {y : Int32} {xa ya : aV} (hy : ya.2.2.1 ≤ y.toInt ∧ y.toInt ≤ ya.2.2.2.1) : aG s0 l m (.long ((x.toUInt64 >>> (y.toInt64.toUInt64 &&& Int64.toUInt64 63)).toInt64)) (bif ile 33 ya.2.2.1 && ile ya.2.2.2.1 33 then aL 0 iHi else aLt) := by
  cases e : (ile 33 ya.2.2.1 && ile ya.2.2.2.1 33) with
  | false => exact aG_Lt
  | true =>
    simp only [Bool.and_eq_true, ile_iff] at e
    obtain ⟨k, h4, h5, h6⟩ := nn_of (x := y) (by omega)
    have hk : k = 33 := by omega
    subst hk
    have g1 := uN_sk x (k := 33) (by decide)
    have g2 := uN_lt x
    rw [← h5] at g1
    refine aG_L ?_
    rw [uN_int, g1]
    unfold iHi
    have g3 : uN x / 2 ^ 33 < 2147483648 := by omega
    rw [if_pos (by omega)]
    omega
theorem cmp_rng (x y : Int64) : -1 ≤ (lg_cmp x y).toInt ∧ (lg_cmp x y).toInt ≤ 1 := by
  unfold lg_cmp
  split
  · decide
  · split <;> decide
end GAR
