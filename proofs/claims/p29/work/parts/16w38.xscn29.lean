
/-! forward: something is seen, both sides -/
theorem nar_b : ∀ b : Bool, vp_nar .boolean (sgI9 b) = sgI9 b := by decide +kernel
def sgW (m : xM) (k e : Nat) (b : Bool) : xM := mI (mI (mI m 85 k (nI e)) 86 k (sgI9 b)) 84 4 (nI (k + 1))
def sgV (m : xM) (k e : Nat) (b : Bool) : xM := mI (mI (mI m 332 (2 * k) (nI e)) 332 (2 * k + 1) (sgI9 b)) 314 51 (nI (k + 1))
theorem c_addD {m : xM} {k e : Nat} {b : Bool} (hr : rS m) (hk : m.1 84 4 = nI k) (hk9 : k < 10) : fC 62 [.ref 84, .int (nI e), .int (sgI9 b)] m (fun rv m' => rv = some (.int (nI (k + 1))) ∧ m' = sgW m k e b) := by
  refine fC_of (by decide) (fun d n9 P H => ?_)
  replace H := f_aload_n H k62_0 rfl
  replace H := f_gi H k62_1 (ci := 7) (f := 4) (by decide +kernel) (by decide)
  replace H := f_bipush H k62_4 (v := 10) (by decide)
  rw [hk] at H
  replace H := f_icmp_lt_t H k62_6 (by rw [show (10 : Int32) = nI 10 from rfl, nxlt (by omega) (by omega)]; omega) (t := 11) (by decide)
  replace H := f_aload_n H k62_11 rfl
  replace H := f_gr H k62_12 (ci := 7) (f := 0) (x := 85) (by decide +kernel) (by decide) (hr 84 0 85 rfl)
  replace H := f_aload_n H k62_15 rfl
  replace H := f_gi H k62_16 (ci := 7) (f := 4) (by decide +kernel) (by decide)
  rw [hk] at H
  replace H := f_iload_n H k62_19 rfl
  have Hob := f_iast H k62_20 (c := 10) (by decide)
  clear H
  obtain ⟨hb20, H⟩ := Hob
  replace H := f_aload_n H k62_21 rfl
  replace H := f_gr H k62_22 (ci := 7) (f := 1) (x := 86) (by decide +kernel) (by decide) (hr 84 1 86 rfl)
  replace H := f_aload_n H k62_25 rfl
  replace H := f_gi H k62_26 (ci := 7) (f := 4) (by decide +kernel) (by decide)
  rw [nI_clamp (by omega), mI_ne (by omega), hk] at H
  replace H := f_iload_n H k62_29 rfl
  have Hob := f_bast2 H k62_30 (c := 10) (by decide)
  clear H
  obtain ⟨hb30, H⟩ := Hob
  replace H := f_aload_n H k62_31 rfl
  replace H := f_dup H k62_32
  replace H := f_gi H k62_33 (ci := 7) (f := 4) (by decide +kernel) (by decide)
  replace H := f_iconst H k62_36 (v := 1) (by decide)
  rw [nI_clamp (by omega), nar_b, mI_ne (by omega), mI_ne (by omega), hk] at H
  replace H := f_iadd H k62_37
  rw [nI_s] at H
  replace H := f_put_i H k62_38 (ci := 7) (f := 4) (by decide +kernel) (by decide)
  replace H := f_aload_n H k62_41 rfl
  replace H := f_gi H k62_42 (ci := 7) (f := 4) (by decide +kernel) (by decide)
  rw [mI_at] at H
  replace H := f_iret H k62_45
  exact ⟨_, _, H, rfl, rfl⟩
theorem c_add10 {m : xM} {z y : Int32} (hr : rS m) (hk : m.1 84 4 = nI 10) : fC 62 [.ref 84, .int z, .int y] m (fun rv m' => rv = some (.int (-1)) ∧ m = m') := by
  refine fC_of (by decide) (fun d n9 P H => ?_)
  replace H := f_aload_n H k62_0 rfl
  replace H := f_gi H k62_1 (ci := 7) (f := 4) (by decide +kernel) (by decide)
  replace H := f_bipush H k62_4 (v := 10) (by decide)
  rw [hk] at H
  replace H := f_icmp_lt_f H k62_6 (by decide)
  replace H := f_iconst H k62_9 (v := -1) (by decide)
  replace H := f_iret H k62_10
  exact ⟨_, _, H, rfl, rfl⟩
theorem c_seenD {m : xM} {C k : Nat} {z : Int32} {b : Bool} (hr : rS m) (hC : m.1 3 0 = nI C) (hC9 : C ≤ 8) (hk : m.1 84 4 = nI k) (hk9 : k ≤ 10) : fC 136 [.ref 0, .int z, .int (sgI9 b)] m (fun rv m' => (¬ ((∃ e, e < C ∧ z = nI e) ∧ k < 10) ∧ m' = m) ∨ ∃ e, e < C ∧ z = nI e ∧ k < 10 ∧ m' = sgW m k e b) := by
  refine fC_of (by decide) (fun d n9 P H => ?_)
  replace H := f_aload_n H k136_0 rfl
  replace H := f_iload_n H k136_1 rfl
  obtain ⟨rv, m3, ⟨ho, e3⟩, h9_2⟩ := f_inv H k136_2 (by decide +kernel) (as := [.int _]) (b := 0) (r := []) (by rfl) (c_isCornerN hr hC (by omega))
  replace H := h9_2
  rw [← e3] at H
  clear e3
  rcases ho with ⟨e, he, rfl, rfl⟩ | ⟨h0, rfl⟩
  · replace H := f_if_ne_t H k136_5 (by decide) (t := 10) (by decide)
    replace H := f_aload_n H k136_10 rfl
    replace H := f_gr H k136_11 (ci := 11) (f := 8) (x := 84) (by decide +kernel) (by decide) (hr 0 8 84 rfl)
    replace H := f_iload_n H k136_14 rfl
    replace H := f_iload_n H k136_15 rfl
    by_cases c : k < 10
    · obtain ⟨rv, m4, ⟨rfl, e9⟩, h9_16⟩ := f_inv H k136_16 (by decide +kernel) (as := [.int _, .int _]) (b := 84) (r := []) (by rfl) (c_addD hr hk c)
      replace H := h9_16
      rw [e9] at H
      replace H := f_iret H k136_19
      exact ⟨_, _, H, Or.inr ⟨e, he, rfl, c, rfl⟩⟩
    · obtain ⟨rv, m4, ⟨rfl, e9⟩, h9_16⟩ := f_inv H k136_16 (by decide +kernel) (as := [.int _, .int _]) (b := 84) (r := []) (by rfl) (c_add10 hr (by rw [hk, show k = 10 by omega]))
      replace H := h9_16
      rw [← e9] at H
      replace H := f_iret H k136_19
      exact ⟨_, _, H, Or.inl ⟨fun q => c q.2, rfl⟩⟩
  · replace H := f_if_ne_f H k136_5 (by decide)
    replace H := f_iconst H k136_8 (v := -1) (by decide)
    replace H := f_iret H k136_9
    exact ⟨_, _, H, Or.inl ⟨fun q => by
      obtain ⟨⟨e, he, h⟩, -⟩ := q
      exact h0 e he h, rfl⟩⟩
theorem c_mseenD {m : xM} {C k : Nat} {z : Int32} {b : Bool} (hr : rS m) (hC : m.1 314 25 = nI C) (hC9 : C ≤ 8) (hk : m.1 314 51 = nI k) (hk9 : k ≤ 10) : fC 233 [.ref 314, .int z, .int (sgI9 b)] m (fun rv m' => (¬ ((∃ e, e < C ∧ z = nI e) ∧ k < 10) ∧ m' = mI m 314 0 0) ∨ ∃ e, e < C ∧ z = nI e ∧ k < 10 ∧ m' = sgV (mI m 314 0 0) k e b) := by
  refine fC_of (by decide) (fun d n9 P H => ?_)
  replace H := f_aload_n H k233_0 rfl
  replace H := f_iconst H k233_1 (v := 0) (by decide)
  replace H := f_put_i H k233_2 (ci := 12) (f := 0) (by decide +kernel) (by decide)
  have hr : rS (mI m 314 0 0) := hr
  have hC : (mI m 314 0 0).1 314 25 = nI C := by rw [mI_ne (by omega)]; exact hC
  have hk : (mI m 314 0 0).1 314 51 = nI k := by rw [mI_ne (by omega)]; exact hk
  generalize hm1 : mI m 314 0 0 = m1 at *
  replace H := f_aload_n H k233_5 rfl
  replace H := f_iload_n H k233_6 rfl
  obtain ⟨rv, m3, ⟨ho, e3⟩, h9_7⟩ := f_inv H k233_7 (by decide +kernel) (as := [.int _]) (b := 314) (r := []) (by rfl) (c_misCornerN hr hC (by omega))
  replace H := h9_7
  rw [← e3] at H
  clear e3
  have neg : ∀ n, ¬ ((∃ e, e < C ∧ z = nI e) ∧ k < 10) → xF 233 (xw d) P n 22 [(0, .ref 314), (1, .int z), (2, .int (sgI9 b))] [] m1 → ∃ rv m', P rv m' ∧ ((¬ ((∃ e, e < C ∧ z = nI e) ∧ k < 10) ∧ m' = m1) ∨ ∃ e, e < C ∧ z = nI e ∧ k < 10 ∧ m' = sgV m1 k e b) := by
    intro n hn H
    replace H := f_iconst H k233_22 (v := -1) (by decide)
    replace H := f_iret H k233_23
    exact ⟨_, _, H, Or.inl ⟨hn, rfl⟩⟩
  rcases ho with ⟨e, he, rfl, rfl⟩ | ⟨h0, rfl⟩
  · replace H := f_if_eq_f H k233_10 (by decide)
    replace H := f_aload_n H k233_13 rfl
    replace H := f_gi H k233_14 (ci := 12) (f := 51) (by decide +kernel) (by decide)
    replace H := f_bipush H k233_17 (v := 10) (by decide)
    rw [hk, show (10 : Int32) = nI 10 from rfl] at H
    have Hbr := f_icmp_ne H k233_19 (t := 24) (by decide)
    clear H
    rcases Hbr with ⟨c, H⟩ | ⟨c, H⟩
    · rw [nI_inj (by omega) (by omega)] at c
      have fin : ∀ n s9, s9 = sgI9 b → xF 233 (xw d) P n 57 [(0, .ref 314), (1, .int (nI e)), (2, .int (sgI9 b))] [.int s9, .int (nI (2 * k + 1)), .ref 332] (mI m1 332 (2 * k) (nI e)) → ∃ rv m', P rv m' ∧ ((¬ ((∃ e9, e9 < C ∧ nI e = nI e9) ∧ k < 10) ∧ m' = m1) ∨ ∃ e9, e9 < C ∧ nI e = nI e9 ∧ k < 10 ∧ m' = sgV m1 k e9 b) := by
        intro n s9 es H
        rw [es] at H
        have Hob := f_iast H k233_57 (c := 20) (by decide)
        clear H
        obtain ⟨hb57, H⟩ := Hob
        replace H := f_aload_n H k233_58 rfl
        replace H := f_dup H k233_59
        replace H := f_gi H k233_60 (ci := 12) (f := 51) (by decide +kernel) (by decide)
        rw [nI_clamp (by omega), mI_ne (by omega), mI_ne (by omega), hk] at H
        replace H := f_iconst H k233_63 (v := 1) (by decide)
        replace H := f_iadd H k233_64
        rw [nI_s] at H
        replace H := f_put_i H k233_65 (ci := 12) (f := 51) (by decide +kernel) (by decide)
        replace H := f_aload_n H k233_68 rfl
        replace H := f_gi H k233_69 (ci := 12) (f := 51) (by decide +kernel) (by decide)
        replace H := f_iret H k233_72
        exact ⟨_, _, H, Or.inr ⟨e, he, rfl, by omega, rfl⟩⟩
      replace H := f_aload_n H k233_24 rfl
      replace H := f_gr H k233_25 (ci := 12) (f := 50) (x := 332) (by decide +kernel) (by decide) (hr 314 50 332 rfl)
      replace H := f_iconst H k233_28 (v := 2) (by decide)
      replace H := f_aload_n H k233_29 rfl
      replace H := f_gi H k233_30 (ci := 12) (f := 51) (by decide +kernel) (by decide)
      replace H := f_imul H k233_33
      rw [hk, show (2 : Int32) = nI 2 from rfl, nI_mul] at H
      replace H := f_iload_n H k233_34 rfl
      have Hob := f_iast H k233_35 (c := 20) (by decide)
      clear H
      obtain ⟨hb35, H⟩ := Hob
      replace H := f_aload_n H k233_36 rfl
      replace H := f_gr H k233_37 (ci := 12) (f := 50) (x := 332) (by decide +kernel) (by decide) (hr 314 50 332 rfl)
      replace H := f_iconst H k233_40 (v := 2) (by decide)
      replace H := f_aload_n H k233_41 rfl
      replace H := f_gi H k233_42 (ci := 12) (f := 51) (by decide +kernel) (by decide)
      rw [nI_clamp (by omega), mI_ne (by omega), hk, show (2 : Int32) = nI 2 from rfl] at H
      replace H := f_imul H k233_45
      replace H := f_iconst H k233_46 (v := 1) (by decide)
      replace H := f_iadd H k233_47
      rw [nI_mul, nI_s] at H
      replace H := f_iload_n H k233_48 rfl
      cases b with
      | true =>
        replace H := f_if_eq_f H k233_49 (by decide)
        replace H := f_iconst H k233_52 (v := 1) (by decide)
        replace H := f_goto H k233_53 (t := 57) (by decide)
        exact fin _ 1 rfl H
      | false =>
        replace H := f_if_eq_t H k233_49 rfl (t := 56) (by decide)
        replace H := f_iconst H k233_56 (v := 0) (by decide)
        exact fin _ 0 rfl H
    · rw [nI_inj (by omega) (by omega)] at c
      exact neg _ (fun q => by have := q.2; omega) H
  · replace H := f_if_eq_t H k233_10 rfl (t := 22) (by decide)
    exact neg _ (fun q => by
      obtain ⟨⟨e, he, h⟩, -⟩ := q
      exact h0 e he h) H
