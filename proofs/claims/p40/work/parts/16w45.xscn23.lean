theorem k134_0 : lkc 0 (kcode 134) = some (.aload_n 0) := by decide +kernel
theorem k134_1 : lkc 1 (kcode 134) = some (.iload_n 1) := by decide +kernel
theorem k134_2 : lkc 2 (kcode 134) = some (.invokevirtual 196) := by decide +kernel
theorem k134_5 : lkc 5 (kcode 134) = some (.ifCond .ne 5) := by decide +kernel
theorem k134_8 : lkc 8 (kcode 134) = some (.iconst (-1)) := by decide +kernel
theorem k134_9 : lkc 9 (kcode 134) = some (.ireturn) := by decide +kernel
theorem k134_10 : lkc 10 (kcode 134) = some (.aload_n 0) := by decide +kernel
theorem k134_11 : lkc 11 (kcode 134) = some (.getfield 79) := by decide +kernel
theorem k134_14 : lkc 14 (kcode 134) = some (.aload_n 0) := by decide +kernel
theorem k134_15 : lkc 15 (kcode 134) = some (.getfield 75) := by decide +kernel
theorem k134_18 : lkc 18 (kcode 134) = some (.invokevirtual 294) := by decide +kernel
theorem k134_21 : lkc 21 (kcode 134) = some (.aload_n 0) := by decide +kernel
theorem k134_22 : lkc 22 (kcode 134) = some (.getfield 61) := by decide +kernel
theorem k134_25 : lkc 25 (kcode 134) = some (.aload_n 0) := by decide +kernel
theorem k134_26 : lkc 26 (kcode 134) = some (.getfield 79) := by decide +kernel
theorem k134_29 : lkc 29 (kcode 134) = some (.invokevirtual 253) := by decide +kernel
theorem k134_32 : lkc 32 (kcode 134) = some (.iconst 1) := by decide +kernel
theorem k134_33 : lkc 33 (kcode 134) = some (.istore_n 2) := by decide +kernel
theorem k134_34 : lkc 34 (kcode 134) = some (.iload_n 2) := by decide +kernel
theorem k134_35 : lkc 35 (kcode 134) = some (.bipush 60) := by decide +kernel
theorem k134_37 : lkc 37 (kcode 134) = some (.if_icmp .gt 36) := by decide +kernel
theorem k134_40 : lkc 40 (kcode 134) = some (.aload_n 0) := by decide +kernel
theorem k134_41 : lkc 41 (kcode 134) = some (.getfield 61) := by decide +kernel
theorem k134_44 : lkc 44 (kcode 134) = some (.aload_n 0) := by decide +kernel
theorem k134_45 : lkc 45 (kcode 134) = some (.getfield 79) := by decide +kernel
theorem k134_48 : lkc 48 (kcode 134) = some (.invokevirtual 256) := by decide +kernel
theorem k134_51 : lkc 51 (kcode 134) = some (.aload_n 0) := by decide +kernel
theorem k134_52 : lkc 52 (kcode 134) = some (.getfield 61) := by decide +kernel
theorem k134_55 : lkc 55 (kcode 134) = some (.getfield 262) := by decide +kernel
theorem k134_58 : lkc 58 (kcode 134) = some (.iload_n 1) := by decide +kernel
theorem k134_59 : lkc 59 (kcode 134) = some (.ishr) := by decide +kernel
theorem k134_60 : lkc 60 (kcode 134) = some (.iconst 1) := by decide +kernel
theorem k134_61 : lkc 61 (kcode 134) = some (.iand) := by decide +kernel
theorem k134_62 : lkc 62 (kcode 134) = some (.ifCond .eq 5) := by decide +kernel
theorem k134_65 : lkc 65 (kcode 134) = some (.iload_n 2) := by decide +kernel
theorem k134_66 : lkc 66 (kcode 134) = some (.ireturn) := by decide +kernel
theorem k134_67 : lkc 67 (kcode 134) = some (.iinc 2 1) := by decide +kernel
theorem k134_70 : lkc 70 (kcode 134) = some (.goto (-36)) := by decide +kernel
theorem k134_73 : lkc 73 (kcode 134) = some (.iconst (-1)) := by decide +kernel
theorem k134_74 : lkc 74 (kcode 134) = some (.ireturn) := by decide +kernel
/-! forward: in how many days one lapses, both sides -/
def soV (W : Nat) (g : Nat → Bool) (z v : Int32) : Prop := (∃ p, p < W ∧ z = nI p ∧ v = if g p then -1 else 1) ∨ (¬ (∃ p, p < W ∧ z = nI p) ∧ v = -1)
theorem soV_1 {W : Nat} {g : Nat → Bool} {z v u : Int32} (hW : W ≤ 4) (h : soV W g z v) (q : soV W g z u) : v = u := by
  rcases h with ⟨p, h1, h2, h3⟩ | ⟨h1, h2⟩
  · rcases q with ⟨p', q1, q2, q3⟩ | ⟨q1, q2⟩
    · have : p = p' := (nI_inj (by omega) (by omega)).mp (h2.symm.trans q2)
      subst this
      exact h3.trans q3.symm
    · exact absurd ⟨p, h1, h2⟩ q1
  · rcases q with ⟨p', q1, q2, q3⟩ | ⟨q1, q2⟩
    · exact absurd ⟨p', q1, q2⟩ h1
    · exact h2.trans q2.symm
theorem aro_lt {q : Nat → Bool} : ∀ e, aro q e < 2 ^ e
  | 0 => by show 0 < 1; decide
  | e + 1 => by
    have h := aro_lt (q := q) e
    have h2 : (2 : Nat) ^ e < 2 ^ (e + 1) := Nat.pow_lt_pow_right (by omega) (by omega)
    show aro q e ||| (if q e then 2 ^ e else 0) < 2 ^ (e + 1)
    refine Nat.or_lt_two_pow (Nat.lt_trans h h2) ?_
    split
    · exact h2
    · exact Nat.two_pow_pos _
theorem aro_bit {q : Nat → Bool} {k : Nat} : ∀ e, (aro q e).testBit k = (decide (k < e) && q k)
  | 0 => by show (0 : Nat).testBit k = _; rw [Nat.zero_testBit, decide_eq_false (by omega), Bool.false_and]
  | e + 1 => by
    show (aro q e ||| (if q e then 2 ^ e else 0)).testBit k = _
    rw [Nat.testBit_or, aro_bit e]
    by_cases c : k = e
    · subst c
      rw [decide_eq_false (Nat.lt_irrefl _), decide_eq_true (Nat.lt_succ_self _), Bool.false_and, Bool.false_or, Bool.true_and]
      cases q k with
      | true => rw [if_pos rfl, Nat.testBit_two_pow_self]
      | false => exact Nat.zero_testBit _
    · have e2 : decide (k < e + 1) = decide (k < e) := by
        by_cases z : k < e
        · rw [decide_eq_true z, decide_eq_true (by omega)]
        · rw [decide_eq_false z, decide_eq_false (by omega)]
      rw [e2]
      by_cases h : q e = true
      · rw [if_pos h, Nat.testBit_two_pow_of_ne (fun z => c z.symm), Bool.or_false]
      · rw [if_neg h, Nat.zero_testBit, Bool.or_false]
/-- the trial scene of the class, as a day wants it -/
def tXS (m : xM) (C W w k d0 : Nat) (h f : Nat → Nat) : Prop := m.1 94 0 = nI w ∧ m.1 94 1 = nI k ∧ k ≤ 999 ∧ m.1 94 2 = nI d0 ∧ (∀ p, p < W → m.1 97 p = nI (h p) ∧ h p < C) ∧ (∀ p, p < W → m.1 98 p = nI (f p) ∧ f p ≤ 9) ∧ (∀ e, e < 8 → ∃ k, m.1 95 e = nI k ∧ k ≤ 999) ∧ ∀ e, e < 8 → ∃ k, m.1 96 e = nI k ∧ k ≤ 3
set_option maxHeartbeats 2000000 in
theorem c_soon {m : xM} {C S W w k d0 : Nat} {A B Y h f l : Nat → Nat} {g : Nat → Bool} {z : Int32} (hgp : ∀ p, g p = anyG (chp A B S w C) (wyX C S A B Y w) 1000000 (h p) C) (hI : gI tS tR m) (hT : xT m C S A B Y) (hX : xS m C W w k d0 h f l) : fC 134 [.ref 0, .int z] m (fun rv m' => ∃ v, rv = some (.int v) ∧ soV W g z v) := by
  refine fC_of (by decide) (fun d n P H => ?_)
  have hr : rS m := hI.2
  obtain ⟨x1, x2, x3, x4, x5, x6, x7, x8, x9, x10, x11, x12⟩ := id hX
  have hC8 : C ≤ 8 := hT.2.2.1
  have hSt := xT_st hT
  have hle : mle 1000000 (wyX C S A B Y w) := fwO_le (wsX_le hSt) C
  replace H := f_aload_n H k134_0 rfl
  replace H := f_iload_n H k134_1 rfl
  obtain ⟨rv, m3, ⟨ho1, e3⟩, h9_2⟩ := f_inv H k134_2 (by decide +kernel) (as := [.int _]) (b := 0) (r := []) (by rfl) (c_isWalker hr x1 (by omega))
  replace H := h9_2
  rw [← e3] at H
  clear e3
  rcases ho1 with ⟨p, hp, hz, rfl⟩ | ⟨h0, rfl⟩
  · subst hz
    replace H := f_if_ne_t H k134_5 (by decide) (t := 10) (by decide)
    replace H := f_aload_n H k134_10 rfl
    replace H := f_gr H k134_11 (ci := 11) (f := 10) (x := 94) (by decide +kernel) (by decide) (hr 0 10 94 rfl)
    replace H := f_aload_n H k134_14 rfl
    replace H := f_gr H k134_15 (ci := 11) (f := 9) (x := 89) (by decide +kernel) (by decide) (hr 0 9 89 rfl)
    obtain ⟨rv, m1, ⟨⟨rfl, g1⟩, hI1, -⟩, h9_18⟩ := f_inv H k134_18 (by decide +kernel) (as := [.ref 89]) (b := 94) (r := []) (by rfl) (fC_two (c_scBecome hr sc_94 sc_89 (by omega)) (fC_vC q242 hI jTok ⟨aR_a 94, aR_a 89, trivial⟩ gF_nil))
    replace H := h9_18
    have hr : rS m1 := hI1.2
    obtain ⟨-, b2, b3, b4, b5⟩ := g1
    have hT1 : xT m1 C S A B Y := xT_f hT (fun a i h1 h2 => b2 a i (by omega))
    have w1 : m1.1 94 0 = nI w := by rw [b3 0 (by omega)]; exact x3
    have tx1 : tXS m1 C W w k d0 h f := ⟨w1, by rw [b3 1 (by omega)]; exact x5, x6, by rw [b3 2 (by omega)]; exact x7, fun q hq => ⟨by rw [(b5 q (by omega)).1]; exact (x9 q hq).1, (x9 q hq).2⟩, fun q hq => ⟨by rw [(b5 q (by omega)).2]; exact (x10 q hq).1, (x10 q hq).2⟩, fun e he => by rw [(b4 e he).1]; exact x11 e he, fun e he => ⟨l e, by rw [(b4 e he).2]; exact (x12 e he).1, (x12 e he).2⟩⟩
    have hW1 : m1.1 3 2 = nI W := by rw [b2 3 2 (by omega)]; exact x1
    replace H := f_aload_n H k134_21 rfl
    replace H := f_gr H k134_22 (ci := 11) (f := 7) (x := 83) (by decide +kernel) (by decide) (hr 0 7 83 rfl)
    replace H := f_aload_n H k134_25 rfl
    replace H := f_gr H k134_26 (ci := 11) (f := 10) (x := 94) (by decide +kernel) (by decide) (hr 0 10 94 rfl)
    obtain ⟨rv, m2, ⟨⟨rfl, f1, c3, hY⟩, hI2, -⟩, h9_29⟩ := f_inv H k134_29 (by decide +kernel) (as := [.ref 94]) (b := 83) (r := []) (by rfl) (fC_two (c_lookAtT hr hT1 w1 x4) (fC_vC q243 hI1 jTok ⟨aR_a 83, aR_a 94, trivial⟩ gF_nil))
    replace H := h9_29
    have K2 : ∀ a i, a < 63 ∨ 84 ≤ a → m2.1 a i = m1.1 a i := fun a i q => f1 a i (by omega) (by omega) (by omega)
    have hc2 : m2.1 3 0 = nI C := by rw [K2 3 0 (by omega)]; exact hT1.1
    have hW2 : m2.1 3 2 = nI W := by rw [K2 3 2 (by omega)]; exact hW1
    obtain ⟨y1, y2, y3, y4, y5, y6, y7, y8⟩ := tx1
    have tx2 : tXS m2 C W w k d0 h f := ⟨by rw [K2 _ _ (by omega)]; exact y1, by rw [K2 _ _ (by omega)]; exact y2, y3, by rw [K2 _ _ (by omega)]; exact y4, fun q hq => ⟨by rw [K2 _ _ (by omega)]; exact (y5 q hq).1, (y5 q hq).2⟩, fun q hq => ⟨by rw [K2 _ _ (by omega)]; exact (y6 q hq).1, (y6 q hq).2⟩, fun e he => by rw [K2 _ _ (by omega)]; exact y7 e he, fun e he => by rw [K2 _ _ (by omega)]; exact y8 e he⟩
    have lp : ∀ n j m4 k d0 f, 1 ≤ j → j ≤ 61 → (g p = true ∨ j = 1) → gI tS tR m4 → m4.1 3 0 = nI C → m4.1 3 2 = nI W → m4.1 83 3 = nI (chp A B S w C) → mX m4 C (wsX A B Y w S).1 (wyX C S A B Y w) → tXS m4 C W w k d0 h f → d0 + 61 ≤ 1061 + j → xF 134 (xw d) P n 34 [(2, .int (nI j)), (0, .ref 0), (1, .int (nI p))] [] m4 → ∃ rv m', P rv m' ∧ ∃ v, rv = some (.int v) ∧ soV W g (nI p) v := by
      intro n
      induction n with
      | zero => exact fun j m4 k d0 f _ _ _ _ _ _ _ _ _ _ H => (xF_0 H).elim
      | succ n ih =>
        intro j m4 k d0 f hj1 hj2 hgj hI4 hc4 hW4 h34 hY4 tx hd H
        have hr : rS m4 := hI4.2
        replace H := f1_iload_n H k134_34 rfl
        replace H := f_bipush H k134_35 (v := 60) (by decide)
        rw [show (60 : Int32) = nI 60 from rfl] at H
        have Hbr := f_icmp_gt H k134_37 (t := 73) (by decide)
        clear H
        rcases Hbr with ⟨c0, H⟩ | ⟨c0, H⟩
        · rw [nxlt (by omega) (by omega)] at c0
          have hg : g p = true := by
            rcases hgj with q | q
            · exact q
            · omega
          replace H := f_iconst H k134_73 (v := -1) (by decide)
          replace H := f_iret H k134_74
          exact ⟨_, _, H, _, rfl, Or.inl ⟨p, hp, rfl, by rw [if_pos hg]⟩⟩
        · rw [nxlt (by omega) (by omega)] at c0
          obtain ⟨t1, t2, t3, t4, t5, t6, t7, t8⟩ := tx
          replace H := f_aload_n H k134_40 rfl
          replace H := f_gr H k134_41 (ci := 11) (f := 7) (x := 83) (by decide +kernel) (by decide) (hr 0 7 83 rfl)
          replace H := f_aload_n H k134_44 rfl
          replace H := f_gr H k134_45 (ci := 11) (f := 10) (x := 94) (by decide +kernel) (by decide) (hr 0 10 94 rfl)
          obtain ⟨rv, m5, ⟨⟨rfl, f2, p1, p2, p3, p4, p5, p6, p7⟩, hI5, -⟩, h9_48⟩ := f_inv H k134_48 (by decide +kernel) (as := [.ref 94]) (b := 83) (r := []) (by rfl) (fC_two (c_passDayT (g := g) hgp hI4 hC8 hc4 hW4 x2 h34 hY4 hle t5 t6 t7 t8 t2 t3 t4 (by omega)) (fC_vC q247 hI4 jTok ⟨aR_a 83, aR_a 94, trivial⟩ gF_nil))
          replace H := h9_48
          have hr : rS m5 := hI5.2
          replace H := f_aload_n H k134_51 rfl
          replace H := f_gr H k134_52 (ci := 11) (f := 7) (x := 83) (by decide +kernel) (by decide) (hr 0 7 83 rfl)
          replace H := f_gi H k134_55 (ci := 1) (f := 5) (by decide +kernel) (by decide)
          replace H := f_iload_n H k134_58 rfl
          replace H := f_ishr H k134_59
          replace H := f_iconst H k134_60 (v := 1) (by decide)
          replace H := f_iand H k134_61
          have hal := aro_lt (q := fun p => !(g p)) W
          have hW16 : (2 : Nat) ^ W ≤ 2 ^ 4 := Nat.pow_le_pow_right (by omega) x2
          rw [show (2 : Nat) ^ 4 = 16 from rfl] at hW16
          rw [p7, has_n (by omega) (by omega), aro_bit, decide_eq_true hp, Bool.true_and] at H
          cases hg : g p with
          | false =>
            have hj : j = 1 := by
              rcases hgj with q | q
              · rw [hg] at q; cases q
              · exact q
            rw [hg] at H
            replace H := f_if_eq_f H k134_62 (by decide)
            replace H := f_iload_n H k134_65 rfl
            replace H := f_iret H k134_66
            exact ⟨_, _, H, _, rfl, Or.inl ⟨p, hp, rfl, by rw [hg, hj]; rfl⟩⟩
          | true =>
            rw [hg] at H
            replace H := f_if_eq_t H k134_62 rfl (t := 67) (by decide)
            replace H := f_iinc H k134_67 rfl (l2 := [(2, .int (nI j + 1)), (0, .ref 0), (1, .int (nI p))]) rfl
            replace H := f_goto H k134_70 (t := 34) (by decide)
            rw [nI_s] at H
            refine ih (j + 1) m5 _ _ (fth g f) (by omega) (by omega) (Or.inl hg) hI5 ?_ ?_ ?_ (mX_PT hY4 hC8 f2) ⟨?_, p4, by omega, p5, fun q hq => ⟨?_, (t5 q hq).2⟩, fun q hq => ⟨p1 q hq, fth_le (t6 q hq).2⟩, p3, fun e he => ?_⟩ (by omega) H
            · rw [f2 _ _ (by omega) (by omega) (by omega) (by omega) (by omega) (by omega)]; exact hc4
            · rw [f2 _ _ (by omega) (by omega) (by omega) (by omega) (by omega) (by omega)]; exact hW4
            · rw [f2 _ _ (by omega) (by omega) (by omega) (by omega) (by omega) (by omega)]; exact h34
            · rw [f2 _ _ (by omega) (by omega) (by omega) (by omega) (by omega) (by omega)]; exact t1
            · rw [f2 _ _ (by omega) (by omega) (by omega) (by omega) (by omega) (by omega)]; exact (t5 q hq).1
            · rw [f2 _ _ (by omega) (by omega) (by omega) (by omega) (by omega) (by omega)]; exact t8 e he
    replace H := f_iconst H k134_32 (v := 1) (by decide)
    replace H := f_istore_n H k134_33 (l2 := [(2, .int 1), (0, .ref 0), (1, .int (nI p))]) rfl
    exact lp _ 1 m2 k d0 f (by omega) (by omega) (Or.inr rfl) hI2 hc2 hW2 c3 hY tx2 (by omega) H
  · replace H := f_if_ne_f H k134_5 rfl
    replace H := f_iconst H k134_8 (v := -1) (by decide)
    replace H := f_iret H k134_9
    exact ⟨_, _, H, _, rfl, Or.inr ⟨fun ⟨p, hp, e⟩ => h0 p hp e, rfl⟩⟩
