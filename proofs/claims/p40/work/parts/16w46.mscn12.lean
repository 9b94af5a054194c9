theorem k192_0 : lkc 0 (kcode 192) = some (.iconst 0) := by decide +kernel
theorem k192_1 : lkc 1 (kcode 192) = some (.istore_n 2) := by decide +kernel
theorem k192_2 : lkc 2 (kcode 192) = some (.iload_n 2) := by decide +kernel
theorem k192_3 : lkc 3 (kcode 192) = some (.bipush 27) := by decide +kernel
theorem k192_5 : lkc 5 (kcode 192) = some (.if_icmp .ge 15) := by decide +kernel
theorem k192_8 : lkc 8 (kcode 192) = some (.aload_n 1) := by decide +kernel
theorem k192_9 : lkc 9 (kcode 192) = some (.iload_n 2) := by decide +kernel
theorem k192_10 : lkc 10 (kcode 192) = some (.aload_n 0) := by decide +kernel
theorem k192_11 : lkc 11 (kcode 192) = some (.iload_n 2) := by decide +kernel
theorem k192_12 : lkc 12 (kcode 192) = some (.iaload) := by decide +kernel
theorem k192_13 : lkc 13 (kcode 192) = some (.iastore) := by decide +kernel
theorem k192_14 : lkc 14 (kcode 192) = some (.iinc 2 1) := by decide +kernel
theorem k192_17 : lkc 17 (kcode 192) = some (.goto (-15)) := by decide +kernel
theorem k192_20 : lkc 20 (kcode 192) = some (.aload_n 1) := by decide +kernel
theorem k192_21 : lkc 21 (kcode 192) = some (.bipush 27) := by decide +kernel
theorem k192_23 : lkc 23 (kcode 192) = some (.iconst 0) := by decide +kernel
theorem k192_24 : lkc 24 (kcode 192) = some (.iastore) := by decide +kernel
theorem k192_25 : lkc 25 (kcode 192) = some (.return_) := by decide +kernel
theorem k231_0 : lkc 0 (kcode 231) = some (.aload_n 0) := by decide +kernel
theorem k231_1 : lkc 1 (kcode 231) = some (.iconst 0) := by decide +kernel
theorem k231_2 : lkc 2 (kcode 231) = some (.putfield 90) := by decide +kernel
theorem k231_5 : lkc 5 (kcode 231) = some (.aload_n 0) := by decide +kernel
theorem k231_6 : lkc 6 (kcode 231) = some (.iload_n 1) := by decide +kernel
theorem k231_7 : lkc 7 (kcode 231) = some (.invokevirtual 362) := by decide +kernel
theorem k231_10 : lkc 10 (kcode 231) = some (.ifCond .ne 5) := by decide +kernel
theorem k231_13 : lkc 13 (kcode 231) = some (.iconst (-1)) := by decide +kernel
theorem k231_14 : lkc 14 (kcode 231) = some (.ireturn) := by decide +kernel
theorem k231_15 : lkc 15 (kcode 231) = some (.aload_n 0) := by decide +kernel
theorem k231_16 : lkc 16 (kcode 231) = some (.getfield 58) := by decide +kernel
theorem k231_19 : lkc 19 (kcode 231) = some (.aload_n 0) := by decide +kernel
theorem k231_20 : lkc 20 (kcode 231) = some (.getfield 61) := by decide +kernel
theorem k231_23 : lkc 23 (kcode 231) = some (.invokestatic 426) := by decide +kernel
theorem k231_26 : lkc 26 (kcode 231) = some (.iconst 1) := by decide +kernel
theorem k231_27 : lkc 27 (kcode 231) = some (.istore_n 2) := by decide +kernel
theorem k231_28 : lkc 28 (kcode 231) = some (.iload_n 2) := by decide +kernel
theorem k231_29 : lkc 29 (kcode 231) = some (.bipush 60) := by decide +kernel
theorem k231_31 : lkc 31 (kcode 231) = some (.if_icmp .gt 31) := by decide +kernel
theorem k231_34 : lkc 34 (kcode 231) = some (.aload_n 0) := by decide +kernel
theorem k231_35 : lkc 35 (kcode 231) = some (.aload_n 0) := by decide +kernel
theorem k231_36 : lkc 36 (kcode 231) = some (.getfield 61) := by decide +kernel
theorem k231_39 : lkc 39 (kcode 231) = some (.invokevirtual 370) := by decide +kernel
theorem k231_42 : lkc 42 (kcode 231) = some (.istore_n 3) := by decide +kernel
theorem k231_43 : lkc 43 (kcode 231) = some (.aload_n 0) := by decide +kernel
theorem k231_44 : lkc 44 (kcode 231) = some (.getfield 344) := by decide +kernel
theorem k231_47 : lkc 47 (kcode 231) = some (.iload_n 1) := by decide +kernel
theorem k231_48 : lkc 48 (kcode 231) = some (.invokestatic 223) := by decide +kernel
theorem k231_51 : lkc 51 (kcode 231) = some (.ifCond .eq 5) := by decide +kernel
theorem k231_54 : lkc 54 (kcode 231) = some (.iload_n 2) := by decide +kernel
theorem k231_55 : lkc 55 (kcode 231) = some (.ireturn) := by decide +kernel
theorem k231_56 : lkc 56 (kcode 231) = some (.iinc 2 1) := by decide +kernel
theorem k231_59 : lkc 59 (kcode 231) = some (.goto (-31)) := by decide +kernel
theorem k231_62 : lkc 62 (kcode 231) = some (.iconst (-1)) := by decide +kernel
theorem k231_63 : lkc 63 (kcode 231) = some (.ireturn) := by decide +kernel
/-! forward: in how many days one lapses, the reference -/
theorem c_copyT {m : xM} : fC 192 [.ref 326, .ref 327] m (fun rv m' => rv = none ∧ m'.2 = m.2 ∧ (∀ a i, a ≠ 327 → m'.1 a i = m.1 a i) ∧ (∀ k, k < 27 → m'.1 327 k = m.1 326 k) ∧ m'.1 327 27 = 0) := by
  refine fC_of (by decide) (fun d n P H => ?_)
  have c27 : (27 : Int32).toNatClampNeg = 27 := by decide
  have lp : ∀ n e m2, e ≤ 27 → m2.2 = m.2 → (∀ a i, a ≠ 327 → m2.1 a i = m.1 a i) → (∀ k, k < e → m2.1 327 k = m.1 326 k) → xF 192 (xw d) P n 2 [(2, .int (nI e)), (0, .ref 326), (1, .ref 327)] [] m2 → ∃ rv m', P rv m' ∧ rv = none ∧ m'.2 = m.2 ∧ (∀ a i, a ≠ 327 → m'.1 a i = m.1 a i) ∧ (∀ k, k < 27 → m'.1 327 k = m.1 326 k) ∧ m'.1 327 27 = 0 := by
    intro n
    induction n with
    | zero => exact fun e m2 _ _ _ _ H => (xF_0 H).elim
    | succ n ih =>
      intro e m2 he h2 hf hk H
      replace H := f1_iload_n H k192_2 rfl
      replace H := f_bipush H k192_3 (v := 27) (by decide)
      rw [show (27 : Int32) = nI 27 from rfl] at H
      have Hbr := f_icmp_ge H k192_5 (t := 20) (by decide)
      clear H
      rcases Hbr with ⟨c0, H⟩ | ⟨c0, H⟩
      · rw [nxle (by omega) (by omega)] at c0
        replace H := f_aload_n H k192_20 rfl
        replace H := f_bipush H k192_21 (v := 27) (by decide)
        replace H := f_iconst H k192_23 (v := 0) (by decide)
        have Hob := f_iast H k192_24 (c := 208) (by decide)
        clear H
        obtain ⟨hb24, H⟩ := Hob
        rw [c27] at H
        replace H := f_ret H k192_25
        exact ⟨_, _, H, rfl, h2, fun a i q => by rw [mI_ne (by omega)]; exact hf a i q, fun k hk9 => by rw [mI_ne (by omega)]; exact hk k (by omega), mI_at⟩
      · rw [nxle (by omega) (by omega)] at c0
        replace H := f_aload_n H k192_8 rfl
        replace H := f_iload_n H k192_9 rfl
        replace H := f_aload_n H k192_10 rfl
        replace H := f_iload_n H k192_11 rfl
        have Hob := f_iald H k192_12 (c := 208) (by decide)
        clear H
        obtain ⟨hb12, H⟩ := Hob
        have Hob := f_iast H k192_13 (c := 208) (by decide)
        clear H
        obtain ⟨hb13, H⟩ := Hob
        replace H := f_iinc H k192_14 rfl (l2 := [(2, .int (nI e + 1)), (0, .ref 326), (1, .ref 327)]) rfl
        replace H := f_goto H k192_17 (t := 2) (by decide)
        rw [nI_clamp (by omega), nI_s] at H
        refine ih (e + 1) (mI m2 327 e (m2.1 326 e)) (by omega) h2 (fun a i q => by rw [mI_ne (by omega)]; exact hf a i q) (fun k hk9 => ?_) H
        by_cases c : k = e
        · subst c
          rw [mI_at]
          exact hf 326 k (by omega)
        · rw [mI_ne (by omega)]
          exact hk k (by omega)
  replace H := f_iconst H k192_0 (v := 0) (by decide)
  replace H := f_istore_n H k192_1 (l2 := [(2, .int 0), (0, .ref 326), (1, .ref 327)]) rfl
  exact lp _ 0 m (Nat.zero_le _) rfl (fun _ _ _ => rfl) (fun k hk => absurd hk (Nat.not_lt_zero _)) H
/-- the trial row of the reference, as a day wants it -/
def tMS (m : xM) (C W w k d0 lg : Nat) (h f : Nat → Nat) : Prop := m.1 327 24 = nI w ∧ m.1 327 25 = nI k ∧ k ≤ 999 ∧ m.1 327 26 = nI d0 ∧ m.1 327 27 = nI lg ∧ lg ≤ 60 ∧ (∀ p, p < W → m.1 327 (16 + 2 * p) = nI (h p) ∧ h p < C) ∧ ∀ p, p < W → m.1 327 (17 + 2 * p) = nI (f p) ∧ f p ≤ 9
set_option maxHeartbeats 2000000 in
theorem c_msoon {m : xM} {C S W w k d0 lg : Nat} {A B Y h f : Nat → Nat} {g : Nat → Bool} {z : Int32} (hgp : ∀ p, g p = anyG (chp A B S w C) (wyM C S A B Y w) 100000 (h p) C) (hI : gI tS tR m) (hj : jM m) (hT : mT m C S A B Y) (hX : mS9 m C W w k d0 lg h f) : fC 231 [.ref 314, .int z] m (fun rv m' => ∃ v, rv = some (.int v) ∧ soV W g z v) := by
  refine fC_of (by decide) (fun d n P H => ?_)
  replace H := f_aload_n H k231_0 rfl
  replace H := f_iconst H k231_1 (v := 0) (by decide)
  replace H := f_put_i H k231_2 (ci := 12) (f := 0) (by decide +kernel) (by decide)
  have hI1 : gI tS tR (mI m 314 0 0) := gI_m2 hI (by decide +kernel)
  have hj1 : jM (mI m 314 0 0) := jM_c (by decide) hj
  have hT1 : mT (mI m 314 0 0) C S A B Y := mT_f hT (fun i => ⟨⟨mI_ne (by omega), mI_ne (by omega)⟩, mI_ne (by omega)⟩)
  have hX1 := mS9_f hX (m2 := mI m 314 0 0) (fun a i q => mI_ne (by omega))
  clear hI hj hT hX
  generalize mI m 314 0 0 = m at *
  have hr : rS m := hI1.2
  obtain ⟨x1, x2, x3, x4, x5, x6, x7, x8, x9, x10, x11, x12⟩ := id hX1
  replace H := f_aload_n H k231_5 rfl
  replace H := f_iload_n H k231_6 rfl
  obtain ⟨rv, m3, ⟨ho1, e3⟩, h9_7⟩ := f_inv H k231_7 (by decide +kernel) (as := [.int _]) (b := 314) (r := []) (by rfl) (c_misWalker hr x1 (by omega))
  replace H := h9_7
  rw [← e3] at H
  clear e3
  rcases ho1 with ⟨p, hp, hz, rfl⟩ | ⟨h0, rfl⟩
  · subst hz
    replace H := f_if_ne_t H k231_10 (by decide) (t := 15) (by decide)
    replace H := f_aload_n H k231_15 rfl
    replace H := f_gr H k231_16 (ci := 12) (f := 32) (x := 326) (by decide +kernel) (by decide) (hr 314 32 326 rfl)
    replace H := f_aload_n H k231_19 rfl
    replace H := f_gr H k231_20 (ci := 12) (f := 33) (x := 327) (by decide +kernel) (by decide) (hr 314 33 327 rfl)
    obtain ⟨rv, m1, ⟨⟨rfl, b1, b2, b3, b4⟩, hc⟩, h9_23⟩ := f_ins H k231_23 (by decide +kernel) (as := [.ref 326, .ref 327]) (r := []) (by rfl) (fC_two c_copyT (fC_vC r151 hI1 hj1 ⟨aR_a 326, aR_a 327, trivial⟩ gF_nil))
    replace H := h9_23
    have hI2 := hc.1
    have hj2 : jM m1 := jM_st (c := (0, [], [], [], r151c.2.2.2.2)) (by decide) m m1 hc.2.1 hj1
    clear hc
    have hr : rS m1 := hI2.2
    have hT2 : mT m1 C S A B Y := mT_f hT1 (fun i => ⟨⟨b2 _ _ (by omega), b2 _ _ (by omega)⟩, b2 _ _ (by omega)⟩)
    have hW2 : m1.1 314 27 = nI W := by rw [b2 _ _ (by omega)]; exact x1
    have tx2 : tMS m1 C W w k d0 0 h f := ⟨by rw [b3 _ (by omega)]; exact x3, by rw [b3 _ (by omega)]; exact x5, x6, by rw [b3 _ (by omega)]; exact x7, b4, by omega, fun q hq => ⟨by rw [b3 _ (by omega)]; exact (x11 q hq).1, (x11 q hq).2⟩, fun q hq => ⟨by rw [b3 _ (by omega)]; exact (x12 q hq).1, (x12 q hq).2⟩⟩
    have lp : ∀ n j m4 k d0 lg f v3, 1 ≤ j → j ≤ 61 → (g p = true ∨ j = 1) → gI tS tR m4 → jM m4 → mT m4 C S A B Y → m4.1 314 27 = nI W → tMS m4 C W w k d0 lg h f → d0 + 61 ≤ 1061 + j → xF 231 (xw d) P n 28 [(2, .int (nI j)), (3, .int v3), (0, .ref 314), (1, .int (nI p))] [] m4 → ∃ rv m', P rv m' ∧ ∃ v, rv = some (.int v) ∧ soV W g (nI p) v := by
      intro n
      induction n with
      | zero => exact fun j m4 k d0 lg f v3 _ _ _ _ _ _ _ _ _ H => (xF_0 H).elim
      | succ n ih =>
        intro j m4 k d0 lg f v3 hj1 hj2 hgj hI4 hj4 hT4 hW4 tx hd H
        have hr : rS m4 := hI4.2
        replace H := f1_iload_n H k231_28 rfl
        replace H := f_bipush H k231_29 (v := 60) (by decide)
        rw [show (60 : Int32) = nI 60 from rfl] at H
        have Hbr := f_icmp_gt H k231_31 (t := 62) (by decide)
        clear H
        rcases Hbr with ⟨c0, H⟩ | ⟨c0, H⟩
        · rw [nxlt (by omega) (by omega)] at c0
          have hg : g p = true := by
            rcases hgj with q | q
            · exact q
            · omega
          replace H := f_iconst H k231_62 (v := -1) (by decide)
          replace H := f_iret H k231_63
          exact ⟨_, _, H, _, rfl, Or.inl ⟨p, hp, rfl, by rw [if_pos hg]⟩⟩
        · rw [nxlt (by omega) (by omega)] at c0
          obtain ⟨t1, t2, t3, t4, t5, t6, t7, t8⟩ := tx
          replace H := f_aload_n H k231_34 rfl
          replace H := f_aload_n H k231_35 rfl
          replace H := f_gr H k231_36 (ci := 12) (f := 33) (x := 327) (by decide +kernel) (by decide) (hr 314 33 327 rfl)
          obtain ⟨rv, m5, ⟨⟨rfl, f2, p1, p2, p3, p4⟩, hc⟩, h9_39⟩ := f_inv H k231_39 (by decide +kernel) (as := [.ref 327]) (b := 314) (r := []) (by rfl) (fC_two (c_goDayT (g := g) hgp hI4 hj4 hT4 hW4 x2 t1 x4 t7 t8 t2 t3 t4 (by omega) t5 t6) (fC_vC r154 hI4 hj4 ⟨aR_a 314, aR_a 327, trivial⟩ gF_nil))
          replace H := h9_39
          have hI5 := hc.1
          have hj5 : jM m5 := jM_st (c := (0, [], [], [], r154c.2.2.2.2)) (by decide +kernel) m4 m5 hc.2.1 hj4
          clear hc
          have hr : rS m5 := hI5.2
          have gle := gcn_le (g := g) W
          replace H := f_istore_n H k231_42 (l2 := [(3, .int _), (2, .int (nI j)), (0, .ref 314), (1, .int (nI p))]) rfl
          replace H := f_aload_n H k231_43 rfl
          replace H := f_gi H k231_44 (ci := 12) (f := 39) (by decide +kernel) (by decide)
          replace H := f_iload_n H k231_47 rfl
          have hal := aro_lt (q := fun p => !(g p)) W
          have hW16 : (2 : Nat) ^ W ≤ 2 ^ 4 := Nat.pow_le_pow_right (by omega) x2
          rw [show (2 : Nat) ^ 4 = 16 from rfl] at hW16
          rw [f2.2] at H
          obtain ⟨rv, m6, ⟨rfl, e3⟩, h9_48⟩ := f_ins H k231_48 (by decide +kernel) (as := [.int _, .int _]) (r := []) (by rfl) (c_hasN (k := aro (fun p => !(g p)) W) (j := p) (by omega) (by omega))
          replace H := h9_48
          rw [← e3, aro_bit, decide_eq_true hp, Bool.true_and] at H
          clear e3
          cases hg : g p with
          | false =>
            have hj : j = 1 := by
              rcases hgj with q | q
              · rw [hg] at q; cases q
              · exact q
            rw [hg] at H
            replace H := f_if_eq_f H k231_51 (by decide)
            replace H := f_iload_n H k231_54 rfl
            replace H := f_iret H k231_55
            exact ⟨_, _, H, _, rfl, Or.inl ⟨p, hp, rfl, by rw [hg, hj]; rfl⟩⟩
          | true =>
            rw [hg] at H
            replace H := f_if_eq_t H k231_51 rfl (t := 56) (by decide)
            replace H := f_iinc H k231_56 rfl (l2 := [(2, .int (nI j + 1)), (3, .int (nI (gcn g W))), (0, .ref 314), (1, .int (nI p))]) rfl
            replace H := f_goto H k231_59 (t := 28) (by decide)
            rw [nI_s] at H
            refine ih (j + 1) m5 _ _ _ (fth g f) _ (by omega) (by omega) (Or.inl hg) hI5 hj5 (mT_DT hT4 f2.1) ?_ ⟨?_, p2, by omega, p3, p4, by omega, fun q hq => ⟨?_, (t7 q hq).2⟩, fun q hq => ⟨p1 q hq, fth_le (t8 q hq).2⟩⟩ (by omega) H
            · rw [f2.1 314 27 (by omega)]; exact hW4
            · rw [f2.1 327 24 (by omega)]; exact t1
            · rw [f2.1 327 _ (by omega)]; exact (t7 q hq).1
    replace H := f_iconst H k231_26 (v := 1) (by decide)
    replace H := f_istore_n H k231_27 (l2 := [(2, .int 1), (0, .ref 314), (1, .int (nI p))]) rfl
    replace H := f_ext H (l' := [(2, .int (nI 1)), (3, .int 0), (0, .ref 314), (1, .int (nI p))]) (lE_cons rfl (lE_cons rfl (lE_cons rfl (lE_nil)))) rfl rfl
    exact lp _ 1 m1 k d0 0 f _ (by omega) (by omega) (Or.inr rfl) hI2 hj2 hT2 hW2 tx2 (by omega) H
  · replace H := f_if_ne_f H k231_10 rfl
    replace H := f_iconst H k231_13 (v := -1) (by decide)
    replace H := f_iret H k231_14
    exact ⟨_, _, H, _, rfl, Or.inr ⟨fun ⟨p, hp, e⟩ => h0 p hp e, rfl⟩⟩
