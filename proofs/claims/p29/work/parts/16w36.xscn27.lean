theorem k234_0 : lkc 0 (kcode 234) = some (.aload_n 0) := by decide +kernel
theorem k234_1 : lkc 1 (kcode 234) = some (.iload_n 1) := by decide +kernel
theorem k234_2 : lkc 2 (kcode 234) = some (.invokevirtual 319) := by decide +kernel
theorem k234_5 : lkc 5 (kcode 234) = some (.istore_n 2) := by decide +kernel
theorem k234_6 : lkc 6 (kcode 234) = some (.iconst 0) := by decide +kernel
theorem k234_7 : lkc 7 (kcode 234) = some (.istore_n 3) := by decide +kernel
theorem k234_8 : lkc 8 (kcode 234) = some (.iload_n 3) := by decide +kernel
theorem k234_9 : lkc 9 (kcode 234) = some (.aload_n 0) := by decide +kernel
theorem k234_10 : lkc 10 (kcode 234) = some (.getfield 289) := by decide +kernel
theorem k234_13 : lkc 13 (kcode 234) = some (.if_icmp .ge 36) := by decide +kernel
theorem k234_16 : lkc 16 (kcode 234) = some (.iload_n 2) := by decide +kernel
theorem k234_17 : lkc 17 (kcode 234) = some (.aload_n 0) := by decide +kernel
theorem k234_18 : lkc 18 (kcode 234) = some (.getfield 84) := by decide +kernel
theorem k234_21 : lkc 21 (kcode 234) = some (.iconst 2) := by decide +kernel
theorem k234_22 : lkc 22 (kcode 234) = some (.iload_n 3) := by decide +kernel
theorem k234_23 : lkc 23 (kcode 234) = some (.imul) := by decide +kernel
theorem k234_24 : lkc 24 (kcode 234) = some (.iaload) := by decide +kernel
theorem k234_25 : lkc 25 (kcode 234) = some (.ishr) := by decide +kernel
theorem k234_26 : lkc 26 (kcode 234) = some (.iconst 1) := by decide +kernel
theorem k234_27 : lkc 27 (kcode 234) = some (.iand) := by decide +kernel
theorem k234_28 : lkc 28 (kcode 234) = some (.aload_n 0) := by decide +kernel
theorem k234_29 : lkc 29 (kcode 234) = some (.getfield 84) := by decide +kernel
theorem k234_32 : lkc 32 (kcode 234) = some (.iconst 2) := by decide +kernel
theorem k234_33 : lkc 33 (kcode 234) = some (.iload_n 3) := by decide +kernel
theorem k234_34 : lkc 34 (kcode 234) = some (.imul) := by decide +kernel
theorem k234_35 : lkc 35 (kcode 234) = some (.iconst 1) := by decide +kernel
theorem k234_36 : lkc 36 (kcode 234) = some (.iadd) := by decide +kernel
theorem k234_37 : lkc 37 (kcode 234) = some (.iaload) := by decide +kernel
theorem k234_38 : lkc 38 (kcode 234) = some (.if_icmp .eq 5) := by decide +kernel
theorem k234_41 : lkc 41 (kcode 234) = some (.iconst 0) := by decide +kernel
theorem k234_42 : lkc 42 (kcode 234) = some (.ireturn) := by decide +kernel
theorem k234_43 : lkc 43 (kcode 234) = some (.iinc 3 1) := by decide +kernel
theorem k234_46 : lkc 46 (kcode 234) = some (.goto (-38)) := by decide +kernel
theorem k234_49 : lkc 49 (kcode 234) = some (.iconst 1) := by decide +kernel
theorem k234_50 : lkc 50 (kcode 234) = some (.ireturn) := by decide +kernel
theorem k235_0 : lkc 0 (kcode 235) = some (.iload_n 1) := by decide +kernel
theorem k235_1 : lkc 1 (kcode 235) = some (.bipush 99) := by decide +kernel
theorem k235_3 : lkc 3 (kcode 235) = some (.if_icmp .ne 13) := by decide +kernel
theorem k235_6 : lkc 6 (kcode 235) = some (.aload_n 0) := by decide +kernel
theorem k235_7 : lkc 7 (kcode 235) = some (.getfield 58) := by decide +kernel
theorem k235_10 : lkc 10 (kcode 235) = some (.bipush 24) := by decide +kernel
theorem k235_12 : lkc 12 (kcode 235) = some (.iaload) := by decide +kernel
theorem k235_13 : lkc 13 (kcode 235) = some (.goto 16) := by decide +kernel
theorem k235_16 : lkc 16 (kcode 235) = some (.aload_n 0) := by decide +kernel
theorem k235_17 : lkc 17 (kcode 235) = some (.getfield 58) := by decide +kernel
theorem k235_20 : lkc 20 (kcode 235) = some (.bipush 24) := by decide +kernel
theorem k235_22 : lkc 22 (kcode 235) = some (.iaload) := by decide +kernel
theorem k235_23 : lkc 23 (kcode 235) = some (.iconst 1) := by decide +kernel
theorem k235_24 : lkc 24 (kcode 235) = some (.iload_n 1) := by decide +kernel
theorem k235_25 : lkc 25 (kcode 235) = some (.ishl) := by decide +kernel
theorem k235_26 : lkc 26 (kcode 235) = some (.iconst (-1)) := by decide +kernel
theorem k235_27 : lkc 27 (kcode 235) = some (.ixor) := by decide +kernel
theorem k235_28 : lkc 28 (kcode 235) = some (.iand) := by decide +kernel
theorem k235_29 : lkc 29 (kcode 235) = some (.ireturn) := by decide +kernel
theorem k236_0 : lkc 0 (kcode 236) = some (.iload_n 1) := by decide +kernel
theorem k236_1 : lkc 1 (kcode 236) = some (.bipush 99) := by decide +kernel
theorem k236_3 : lkc 3 (kcode 236) = some (.if_icmp .ne 17) := by decide +kernel
theorem k236_6 : lkc 6 (kcode 236) = some (.aload_n 0) := by decide +kernel
theorem k236_7 : lkc 7 (kcode 236) = some (.aload_n 0) := by decide +kernel
theorem k236_8 : lkc 8 (kcode 236) = some (.getfield 58) := by decide +kernel
theorem k236_11 : lkc 11 (kcode 236) = some (.bipush 24) := by decide +kernel
theorem k236_13 : lkc 13 (kcode 236) = some (.iaload) := by decide +kernel
theorem k236_14 : lkc 14 (kcode 236) = some (.invokevirtual 432) := by decide +kernel
theorem k236_17 : lkc 17 (kcode 236) = some (.goto 42) := by decide +kernel
theorem k236_20 : lkc 20 (kcode 236) = some (.iload_n 1) := by decide +kernel
theorem k236_21 : lkc 21 (kcode 236) = some (.aload_n 0) := by decide +kernel
theorem k236_22 : lkc 22 (kcode 236) = some (.getfield 283) := by decide +kernel
theorem k236_25 : lkc 25 (kcode 236) = some (.if_icmp .ge 33) := by decide +kernel
theorem k236_28 : lkc 28 (kcode 236) = some (.aload_n 0) := by decide +kernel
theorem k236_29 : lkc 29 (kcode 236) = some (.getfield 58) := by decide +kernel
theorem k236_32 : lkc 32 (kcode 236) = some (.bipush 24) := by decide +kernel
theorem k236_34 : lkc 34 (kcode 236) = some (.iaload) := by decide +kernel
theorem k236_35 : lkc 35 (kcode 236) = some (.iload_n 1) := by decide +kernel
theorem k236_36 : lkc 36 (kcode 236) = some (.invokestatic 223) := by decide +kernel
theorem k236_39 : lkc 39 (kcode 236) = some (.ifCond .eq 19) := by decide +kernel
theorem k236_42 : lkc 42 (kcode 236) = some (.aload_n 0) := by decide +kernel
theorem k236_43 : lkc 43 (kcode 236) = some (.aload_n 0) := by decide +kernel
theorem k236_44 : lkc 44 (kcode 236) = some (.iload_n 1) := by decide +kernel
theorem k236_45 : lkc 45 (kcode 236) = some (.invokevirtual 435) := by decide +kernel
theorem k236_48 : lkc 48 (kcode 236) = some (.invokevirtual 432) := by decide +kernel
theorem k236_51 : lkc 51 (kcode 236) = some (.ifCond .eq 7) := by decide +kernel
theorem k236_54 : lkc 54 (kcode 236) = some (.iconst 1) := by decide +kernel
theorem k236_55 : lkc 55 (kcode 236) = some (.goto 4) := by decide +kernel
theorem k236_58 : lkc 58 (kcode 236) = some (.iconst 0) := by decide +kernel
theorem k236_59 : lkc 59 (kcode 236) = some (.ireturn) := by decide +kernel
theorem k237_0 : lkc 0 (kcode 237) = some (.aload_n 0) := by decide +kernel
theorem k237_1 : lkc 1 (kcode 237) = some (.iconst 0) := by decide +kernel
theorem k237_2 : lkc 2 (kcode 237) = some (.putfield 90) := by decide +kernel
theorem k237_5 : lkc 5 (kcode 237) = some (.aload_n 0) := by decide +kernel
theorem k237_6 : lkc 6 (kcode 237) = some (.getfield 283) := by decide +kernel
theorem k237_9 : lkc 9 (kcode 237) = some (.ifCond .eq 8) := by decide +kernel
theorem k237_12 : lkc 12 (kcode 237) = some (.iload_n 1) := by decide +kernel
theorem k237_13 : lkc 13 (kcode 237) = some (.iconst (-1)) := by decide +kernel
theorem k237_14 : lkc 14 (kcode 237) = some (.if_icmp .ge 5) := by decide +kernel
theorem k237_17 : lkc 17 (kcode 237) = some (.iconst (-1)) := by decide +kernel
theorem k237_18 : lkc 18 (kcode 237) = some (.ireturn) := by decide +kernel
theorem k237_19 : lkc 19 (kcode 237) = some (.iconst 0) := by decide +kernel
theorem k237_20 : lkc 20 (kcode 237) = some (.istore_n 2) := by decide +kernel
theorem k237_21 : lkc 21 (kcode 237) = some (.iconst 0) := by decide +kernel
theorem k237_22 : lkc 22 (kcode 237) = some (.istore_n 3) := by decide +kernel
theorem k237_23 : lkc 23 (kcode 237) = some (.iload_n 3) := by decide +kernel
theorem k237_24 : lkc 24 (kcode 237) = some (.bipush 99) := by decide +kernel
theorem k237_26 : lkc 26 (kcode 237) = some (.if_icmp .gt 30) := by decide +kernel
theorem k237_29 : lkc 29 (kcode 237) = some (.aload_n 0) := by decide +kernel
theorem k237_30 : lkc 30 (kcode 237) = some (.iload_n 3) := by decide +kernel
theorem k237_31 : lkc 31 (kcode 237) = some (.invokevirtual 438) := by decide +kernel
theorem k237_34 : lkc 34 (kcode 237) = some (.ifCond .ne 6) := by decide +kernel
theorem k237_37 : lkc 37 (kcode 237) = some (.goto 13) := by decide +kernel
theorem k237_40 : lkc 40 (kcode 237) = some (.iload_n 2) := by decide +kernel
theorem k237_41 : lkc 41 (kcode 237) = some (.iload_n 1) := by decide +kernel
theorem k237_42 : lkc 42 (kcode 237) = some (.if_icmp .ne 5) := by decide +kernel
theorem k237_45 : lkc 45 (kcode 237) = some (.iload_n 3) := by decide +kernel
theorem k237_46 : lkc 46 (kcode 237) = some (.ireturn) := by decide +kernel
theorem k237_47 : lkc 47 (kcode 237) = some (.iinc 2 1) := by decide +kernel
theorem k237_50 : lkc 50 (kcode 237) = some (.iinc 3 1) := by decide +kernel
theorem k237_53 : lkc 53 (kcode 237) = some (.goto (-30)) := by decide +kernel
theorem k237_56 : lkc 56 (kcode 237) = some (.iload_n 1) := by decide +kernel
theorem k237_57 : lkc 57 (kcode 237) = some (.iconst (-1)) := by decide +kernel
theorem k237_58 : lkc 58 (kcode 237) = some (.if_icmp .ne 7) := by decide +kernel
theorem k237_61 : lkc 61 (kcode 237) = some (.iload_n 2) := by decide +kernel
theorem k237_62 : lkc 62 (kcode 237) = some (.goto 4) := by decide +kernel
theorem k237_65 : lkc 65 (kcode 237) = some (.iconst (-1)) := by decide +kernel
theorem k237_66 : lkc 66 (kcode 237) = some (.ireturn) := by decide +kernel
/-! forward: the reference's knocked -/
def mdf (a b : Nat) : Nat := if b ≤ a then a - b else b - a
set_option maxHeartbeats 1000000 in
theorem c_isSo {m : xM} {C S w K : Nat} {A B Y : Nat → Nat} {cs : Nat → Nat} {fs : Nat → Bool} (hr : rS m) (hT : mT m C S A B Y) (hw : w < 65536) (hg : sgM m K cs fs) : fC 234 [.ref 314, .int (nI w)] m (fun rv m' => rv = some (.int (sgI9 (fitN cs fs (chp A B S w C) K))) ∧ m = m') := by
  refine fC_of (by decide) (fun d n9 P H => ?_)
  obtain ⟨g1, g2, g3⟩ := id hg
  have hv := Nat.lt_of_lt_of_le (chp_lt (A := A) (B := B) (S := S) (w := w) C) (p2_8 hT.2.2.1)
  replace H := f_aload_n H k234_0 rfl
  replace H := f_iload_n H k234_1 rfl
  obtain ⟨rv, m2, ⟨rfl, e3⟩, h9_2⟩ := f_inv H k234_2 (by decide +kernel) (as := [.int _]) (b := 314) (r := []) (by rfl) (c_mchapels hr hT hw)
  replace H := h9_2
  rw [← e3] at H
  clear e3
  obtain ⟨v, hv2⟩ : ∃ v, v = chp A B S w C := ⟨_, rfl⟩
  rw [← hv2] at H hv
  rw [← hv2]
  have lp : ∀ n9 i, i ≤ K → fitN cs fs v i = true → xF 234 (xw d) P n9 8 [(3, .int (nI i)), (2, .int (nI v)), (0, .ref 314), (1, .int (nI w))] [] m → ∃ rv m', P rv m' ∧ rv = some (.int (sgI9 (fitN cs fs v K))) ∧ m = m' := by
    intro n9
    induction n9 with
    | zero => exact fun i _ _ H => (xF_0 H).elim
    | succ n9 ih =>
      intro i hi hf H
      replace H := f1_iload_n H k234_8 rfl
      replace H := f_aload_n H k234_9 rfl
      replace H := f_gi H k234_10 (ci := 12) (f := 51) (by decide +kernel) (by decide)
      rw [g1] at H
      have Hbr := f_icmp_ge H k234_13 (t := 49) (by decide)
      clear H
      rcases Hbr with ⟨c0, H⟩ | ⟨c0, H⟩
      · rw [nxle (by omega) (by omega)] at c0
        have ei : i = K := by omega
        replace H := f_iconst H k234_49 (v := 1) (by decide)
        replace H := f_iret H k234_50
        exact ⟨_, _, H, by rw [← ei, hf]; rfl, rfl⟩
      · rw [nxle (by omega) (by omega)] at c0
        obtain ⟨g4, g5, g6⟩ := g3 i (by omega)
        replace H := f_iload_n H k234_16 rfl
        replace H := f_aload_n H k234_17 rfl
        replace H := f_gr H k234_18 (ci := 12) (f := 50) (x := 332) (by decide +kernel) (by decide) (hr 314 50 332 rfl)
        replace H := f_iconst H k234_21 (v := 2) (by decide)
        replace H := f_iload_n H k234_22 rfl
        replace H := f_imul H k234_23
        have Hob := f_iald H k234_24 (c := 20) (by decide)
        clear H
        obtain ⟨hb24, H⟩ := Hob
        rw [show (2 : Int32) = nI 2 from rfl, nI_mul, nI_clamp (by omega), g5] at H
        replace H := f_ishr H k234_25
        replace H := f_iconst H k234_26 (v := 1) (by decide)
        replace H := f_iand H k234_27
        replace H := f_aload_n H k234_28 rfl
        replace H := f_gr H k234_29 (ci := 12) (f := 50) (x := 332) (by decide +kernel) (by decide) (hr 314 50 332 rfl)
        replace H := f_iconst H k234_32 (v := 2) (by decide)
        replace H := f_iload_n H k234_33 rfl
        replace H := f_imul H k234_34
        replace H := f_iconst H k234_35 (v := 1) (by decide)
        replace H := f_iadd H k234_36
        have Hob := f_iald H k234_37 (c := 20) (by decide)
        clear H
        obtain ⟨hb37, H⟩ := Hob
        rw [has_n (by omega) (by omega), show (2 : Int32) = nI 2 from rfl, nI_mul, nI_s, nI_clamp (by omega), g6, show (if v.testBit (cs i) = true then (1 : Int32) else 0) = sgI9 (v.testBit (cs i)) from rfl] at H
        have Hbr := f_icmp_eq H k234_38 (t := 43) (by decide)
        clear H
        rcases Hbr with ⟨c1, H⟩ | ⟨c1, H⟩
        · rw [sgI9_inj] at c1
          replace H := f_iinc H k234_43 rfl (l2 := [(3, .int (nI i + 1)), (2, .int (nI v)), (0, .ref 314), (1, .int (nI w))]) rfl
          replace H := f_goto H k234_46 (t := 8) (by decide)
          rw [nI_s] at H
          exact ih (i + 1) (by omega) (fitN_t hf c1) H
        · rw [sgI9_inj] at c1
          replace H := f_iconst H k234_41 (v := 0) (by decide)
          replace H := f_iret H k234_42
          exact ⟨_, _, H, by rw [fitN_f c1 K (by omega)]; rfl, rfl⟩
  replace H := f_istore_n H k234_5 (l2 := [(2, .int (nI v)), (0, .ref 314), (1, .int (nI w))]) rfl
  replace H := f_iconst H k234_6 (v := 0) (by decide)
  replace H := f_istore_n H k234_7 (l2 := [(3, .int 0), (2, .int (nI v)), (0, .ref 314), (1, .int (nI w))]) rfl
  replace H := f_ext H (l' := [(3, .int (nI 0)), (2, .int (nI v)), (0, .ref 314), (1, .int (nI w))]) (lE_cons rfl (lE_cons rfl (lE_cons rfl (lE_cons rfl (lE_nil))))) rfl rfl
  exact lp _ 0 (Nat.zero_le _) rfl H
theorem cdW_b {w e : Nat} (he : e < 16) (hb : w.testBit e = true) : nI w &&& (nI (2 ^ e) ^^^ -1) = nI (w ^^^ 2 ^ e) := by
  refine b_ext (fun i hi => ?_)
  rw [b_and, b_xor, bt_nI hi, bt_nI hi, bt_nI hi, b_m1 i hi, Nat.testBit_xor, Nat.testBit_two_pow]
  by_cases c : e = i
  · subst c
    rw [show decide (e = e) = true from decide_eq_true rfl, hb]
    rfl
  · rw [decide_eq_false c]
    cases w.testBit i <;> rfl
theorem c_wallsBy {m : xM} {w e : Nat} (hr : rS m) (hw : m.1 326 24 = nI w) (he : e = 99 ∨ (e < 16 ∧ w.testBit e = true)) : fC 235 [.ref 314, .int (nI e)] m (fun rv m' => rv = some (.int (nI (cdW w e))) ∧ m = m') := by
  refine fC_of (by decide) (fun d n9 P H => ?_)
  have c24 : (24 : Int32).toNatClampNeg = 24 := by decide
  have e99 : (99 : Int32) = nI 99 := rfl
  have he2 : e < 100 := by
    rcases he with h | h
    · omega
    · have := h.1; omega
  replace H := f_iload_n H k235_0 rfl
  replace H := f_bipush H k235_1 (v := 99) (by decide)
  rw [e99] at H
  have Hbr := f_icmp_ne H k235_3 (t := 16) (by decide)
  clear H
  rcases Hbr with ⟨c0, H⟩ | ⟨c0, H⟩
  · rw [nI_inj (by omega) (by omega)] at c0
    obtain ⟨hb1, hb2⟩ := he.resolve_left c0
    replace H := f_aload_n H k235_16 rfl
    replace H := f_gr H k235_17 (ci := 12) (f := 32) (x := 326) (by decide +kernel) (by decide) (hr 314 32 326 rfl)
    replace H := f_bipush H k235_20 (v := 24) (by decide)
    have Hob := f_iald H k235_22 (c := 208) (by decide)
    clear H
    obtain ⟨hb22, H⟩ := Hob
    replace H := f_iconst H k235_23 (v := 1) (by decide)
    replace H := f_iload_n H k235_24 rfl
    replace H := f_ishl H k235_25
    replace H := f_iconst H k235_26 (v := -1) (by decide)
    replace H := f_ixor H k235_27
    replace H := f_iand H k235_28
    rw [c24, hw, shl_n (by omega), cdW_b hb1 hb2] at H
    replace H := f_iret H k235_29
    exact ⟨_, _, H, by rw [show cdW w e = w ^^^ 2 ^ e from if_neg c0], rfl⟩
  · rw [nI_inj (by omega) (by omega)] at c0
    replace H := f_aload_n H k235_6 rfl
    replace H := f_gr H k235_7 (ci := 12) (f := 32) (x := 326) (by decide +kernel) (by decide) (hr 314 32 326 rfl)
    replace H := f_bipush H k235_10 (v := 24) (by decide)
    have Hob := f_iald H k235_12 (c := 208) (by decide)
    clear H
    obtain ⟨hb12, H⟩ := Hob
    replace H := f_goto H k235_13 (t := 29) (by decide)
    rw [c24, hw] at H
    replace H := f_iret H k235_29
    exact ⟨_, _, H, by rw [show cdW w e = w from if_pos c0], rfl⟩
set_option maxHeartbeats 1000000 in
theorem c_couldBe {m : xM} {C S w K e : Nat} {A B Y : Nat → Nat} {cs : Nat → Nat} {fs : Nat → Bool} (hr : rS m) (hT : mT m C S A B Y) (hw : m.1 326 24 = nI w) (hw2 : w < 65536) (hg : sgM m K cs fs) (he : e < 100) : fC 236 [.ref 314, .int (nI e)] m (fun rv m' => rv = some (.int (sgI9 (cdQ C S A B w K cs fs e))) ∧ m = m') := by
  refine fC_of (by decide) (fun d n9 P H => ?_)
  have hS12 : S ≤ 12 := hT.2.2.2.1
  have c24 : (24 : Int32).toNatClampNeg = 24 := by decide
  have e99 : (99 : Int32) = nI 99 := rfl
  replace H := f_iload_n H k236_0 rfl
  replace H := f_bipush H k236_1 (v := 99) (by decide)
  rw [e99] at H
  have Hbr := f_icmp_ne H k236_3 (t := 20) (by decide)
  clear H
  rcases Hbr with ⟨c0, H⟩ | ⟨c0, H⟩
  · rw [nI_inj (by omega) (by omega)] at c0
    have no : ∀ n, ¬ (e < S ∧ w.testBit e = true) → xF 236 (xw d) P n 58 [(0, .ref 314), (1, .int (nI e))] [] m → ∃ rv m', P rv m' ∧ rv = some (.int (sgI9 (cdQ C S A B w K cs fs e))) ∧ m = m' := by
      intro n hn H
      replace H := f_iconst H k236_58 (v := 0) (by decide)
      replace H := f_iret H k236_59
      exact ⟨_, _, H, by rw [cdQ_out c0 hn]; rfl, rfl⟩
    replace H := f_iload_n H k236_20 rfl
    replace H := f_aload_n H k236_21 rfl
    replace H := f_gi H k236_22 (ci := 12) (f := 26) (by decide +kernel) (by decide)
    rw [hT.2.1] at H
    have Hbr := f_icmp_ge H k236_25 (t := 58) (by decide)
    clear H
    rcases Hbr with ⟨c1, H⟩ | ⟨c1, H⟩
    · rw [nxle (by omega) (by omega)] at c1
      exact no _ (fun q => by have := q.1; omega) H
    · rw [nxle (by omega) (by omega)] at c1
      replace H := f_aload_n H k236_28 rfl
      replace H := f_gr H k236_29 (ci := 12) (f := 32) (x := 326) (by decide +kernel) (by decide) (hr 314 32 326 rfl)
      replace H := f_bipush H k236_32 (v := 24) (by decide)
      have Hob := f_iald H k236_34 (c := 208) (by decide)
      clear H
      obtain ⟨hb34, H⟩ := Hob
      replace H := f_iload_n H k236_35 rfl
      rw [c24, hw] at H
      obtain ⟨rv, m3, ⟨rfl, e3⟩, h9_36⟩ := f_ins H k236_36 (by decide +kernel) (as := [.int _, .int _]) (r := []) (by rfl) (c_hasN (k := w) (j := e) (by omega) (by omega))
      replace H := h9_36
      rw [← e3] at H
      clear e3
      cases hb : w.testBit e with
      | false =>
        rw [hb] at H
        replace H := f_if_eq_t H k236_39 rfl (t := 58) (by decide)
        exact no _ (fun q => by rw [hb] at q; cases q.2) H
      | true =>
        rw [hb] at H
        replace H := f_if_eq_f H k236_39 (by decide)
        replace H := f_aload_n H k236_42 rfl
        replace H := f_aload_n H k236_43 rfl
        replace H := f_iload_n H k236_44 rfl
        obtain ⟨rv, m4, ⟨rfl, e3⟩, h9_45⟩ := f_inv H k236_45 (by decide +kernel) (as := [.int _]) (b := 314) (r := [.ref 314]) (by rfl) (c_wallsBy hr hw (Or.inr ⟨by omega, hb⟩))
        replace H := h9_45
        rw [← e3] at H
        clear e3
        obtain ⟨rv, m5, ⟨rfl, e3⟩, h9_48⟩ := f_inv H k236_48 (by decide +kernel) (as := [.int _]) (b := 314) (r := []) (by rfl) (c_isSo hr hT (cdW_lt hw2 (Or.inr (by omega))) hg)
        replace H := h9_48
        rw [← e3] at H
        clear e3
        have eq : cdQ C S A B w K cs fs e = fitN cs fs (chp A B S (cdW w e) C) K := cdQ_in (by omega) hb
        rw [← eq] at H
        cases hq : cdQ C S A B w K cs fs e with
        | false =>
          rw [hq] at H
          replace H := f_if_eq_t H k236_51 rfl (t := 58) (by decide)
          replace H := f_iconst H k236_58 (v := 0) (by decide)
          replace H := f_iret H k236_59
          exact ⟨_, _, H, rfl, rfl⟩
        | true =>
          rw [hq] at H
          replace H := f_if_eq_f H k236_51 (by decide)
          replace H := f_iconst H k236_54 (v := 1) (by decide)
          replace H := f_goto H k236_55 (t := 59) (by decide)
          replace H := f_iret H k236_59
          exact ⟨_, _, H, rfl, rfl⟩
  · rw [nI_inj (by omega) (by omega)] at c0
    subst c0
    replace H := f_aload_n H k236_6 rfl
    replace H := f_aload_n H k236_7 rfl
    replace H := f_gr H k236_8 (ci := 12) (f := 32) (x := 326) (by decide +kernel) (by decide) (hr 314 32 326 rfl)
    replace H := f_bipush H k236_11 (v := 24) (by decide)
    have Hob := f_iald H k236_13 (c := 208) (by decide)
    clear H
    obtain ⟨hb13, H⟩ := Hob
    rw [c24, hw] at H
    obtain ⟨rv, m5, ⟨rfl, e3⟩, h9_14⟩ := f_inv H k236_14 (by decide +kernel) (as := [.int _]) (b := 314) (r := []) (by rfl) (c_isSo hr hT hw2 hg)
    replace H := h9_14
    rw [← e3] at H
    clear e3
    replace H := f_goto H k236_17 (t := 59) (by decide)
    replace H := f_iret H k236_59
    exact ⟨_, _, H, by rw [cdQ_99]; rfl, rfl⟩
set_option maxHeartbeats 1000000 in
theorem c_mknocked {m : xM} {C S w K : Nat} {A B Y : Nat → Nat} {cs : Nat → Nat} {fs : Nat → Bool} {z : Int32} (hr : rS m) (hT : mT m C S A B Y) (hCS : C = 0 ↔ S = 0) (hw : m.1 326 24 = nI w) (hw2 : w < 65536) (hg : sgM m K cs fs) : fC 237 [.ref 314, .int z] m (fun rv m' => ∃ v, rv = some (.int v) ∧ knV C (cdQ C S A B w K cs fs) z v) := by
  refine fC_of (by decide) (fun d n9 P H => ?_)
  have e99 : (99 : Int32) = nI 99 := rfl
  replace H := f_aload_n H k237_0 rfl
  replace H := f_iconst H k237_1 (v := 0) (by decide)
  replace H := f_put_i H k237_2 (ci := 12) (f := 0) (by decide +kernel) (by decide)
  have hr : rS (mI m 314 0 0) := hr
  have hT : mT (mI m 314 0 0) C S A B Y := mT_f hT (fun i => ⟨⟨mI_ne (by omega), mI_ne (by omega)⟩, mI_ne (by omega)⟩)
  have hw : (mI m 314 0 0).1 326 24 = nI w := by rw [mI_ne (by omega)]; exact hw
  have hg : sgM (mI m 314 0 0) K cs fs := ⟨by rw [mI_ne (by omega)]; exact hg.1, hg.2.1, fun j hj => by rw [mI_ne (by omega), mI_ne (by omega)]; exact hg.2.2 j hj⟩
  generalize hm1 : mI m 314 0 0 = m1 at *
  have hS12 : S ≤ 12 := hT.2.2.2.1
  have could : ∀ e, e < 100 → fC 236 [.ref 314, .int (nI e)] m1 (fun rv m' => rv = some (.int (sgI9 (cdQ C S A B w K cs fs e))) ∧ m1 = m') := fun e he => c_couldBe hr hT hw hw2 hg he
  obtain ⟨q, hq⟩ : ∃ q, q = cdQ C S A B w K cs fs := ⟨_, rfl⟩
  rw [← hq] at could
  rw [← hq]
  replace H := f_aload_n H k237_5 rfl
  replace H := f_gi H k237_6 (ci := 12) (f := 26) (by decide +kernel) (by decide)
  rw [hT.2.1] at H
  have neg0 : ∀ n, ¬ (0 < C ∧ (z = -1 ∨ ∃ r, r < 100 ∧ q r = true ∧ z = nI (fa_cnt q r))) → xF 237 (xw d) P n 17 [(0, .ref 314), (1, .int z)] [] m1 → ∃ rv m', P rv m' ∧ ∃ v, rv = some (.int v) ∧ knV C q z v := by
    intro n hn H
    replace H := f_iconst H k237_17 (v := -1) (by decide)
    replace H := f_iret H k237_18
    exact ⟨_, _, H, _, rfl, Or.inr (Or.inr ⟨hn, rfl⟩)⟩
  have Hbr := f_if_eq H k237_9 (t := 17) (by decide)
  clear H
  rcases Hbr with ⟨c0, H⟩ | ⟨c0, H⟩
  · rw [show (0 : Int32) = nI 0 from rfl, nI_inj (by omega) (by omega)] at c0
    exact neg0 _ (fun h => by have := hCS.mpr c0; have := h.1; omega) H
  · rw [show (0 : Int32) = nI 0 from rfl, nI_inj (by omega) (by omega)] at c0
    have c9 : 0 < C := by
      rcases Nat.eq_zero_or_pos C with h | h
      · exact absurd (hCS.mp h) c0
      · exact h
    replace H := f_iload_n H k237_12 rfl
    replace H := f_iconst H k237_13 (v := -1) (by decide)
    have Hbr := f_icmp_ge H k237_14 (t := 19) (by decide)
    clear H
    rcases Hbr with ⟨c1, H⟩ | ⟨c1, H⟩
    · have lp : ∀ n9 e, e ≤ 100 → (∀ r, r < e → q r = true → z ≠ nI (fa_cnt q r)) → xF 237 (xw d) P n9 23 [(3, .int (nI e)), (2, .int (nI (fa_cnt q e))), (0, .ref 314), (1, .int z)] [] m1 → ∃ rv m', P rv m' ∧ ∃ v, rv = some (.int v) ∧ knV C q z v := by
        intro n9
        induction n9 with
        | zero => exact fun e _ _ H => (xF_0 H).elim
        | succ n9 ih =>
          intro e he hno H
          have hce := fa_cnt_le q e
          replace H := f1_iload_n H k237_23 rfl
          replace H := f_bipush H k237_24 (v := 99) (by decide)
          rw [e99] at H
          have Hbr := f_icmp_gt H k237_26 (t := 56) (by decide)
          clear H
          rcases Hbr with ⟨c2, H⟩ | ⟨c2, H⟩
          · rw [nxlt (by omega) (by omega)] at c2
            have ee : e = 100 := by omega
            subst ee
            replace H := f_iload_n H k237_56 rfl
            replace H := f_iconst H k237_57 (v := -1) (by decide)
            have Hbr := f_icmp_ne H k237_58 (t := 65) (by decide)
            clear H
            rcases Hbr with ⟨c3, H⟩ | ⟨c3, H⟩
            · replace H := f_iconst H k237_65 (v := -1) (by decide)
              replace H := f_iret H k237_66
              refine ⟨_, _, H, _, rfl, Or.inr (Or.inr ⟨fun h => ?_, rfl⟩)⟩
              rcases h.2 with h | ⟨r, h1, h2, h3⟩
              · exact c3 h
              · exact hno r h1 h2 h3
            · replace H := f_iload_n H k237_61 rfl
              replace H := f_goto H k237_62 (t := 66) (by decide)
              replace H := f_iret H k237_66
              exact ⟨_, _, H, _, rfl, Or.inl ⟨c9, c3, rfl⟩⟩
          · rw [nxlt (by omega) (by omega)] at c2
            have nxt : q e = false ∨ (q e = true ∧ z ≠ nI (fa_cnt q e)) → xF 237 (xw d) P n9 50 [(3, .int (nI e)), (2, .int (nI (fa_cnt q (e + 1)))), (0, .ref 314), (1, .int z)] [] m1 → ∃ rv m', P rv m' ∧ ∃ v, rv = some (.int v) ∧ knV C q z v := by
              intro h9 H
              replace H := f_iinc H k237_50 rfl (l2 := [(3, .int (nI e + 1)), (2, .int (nI (fa_cnt q (e + 1)))), (0, .ref 314), (1, .int z)]) rfl
              replace H := f_goto H k237_53 (t := 23) (by decide)
              rw [nI_s] at H
              refine ih (e + 1) (by omega) (fun r hr9 h2 => ?_) H
              by_cases c : r = e
              · subst c
                rcases h9 with h9 | h9
                · rw [h9] at h2
                  cases h2
                · exact h9.2
              · exact hno r (by omega) h2
            replace H := f_aload_n H k237_29 rfl
            replace H := f_iload_n H k237_30 rfl
            obtain ⟨rv, m5, ⟨rfl, e3⟩, h9_31⟩ := f_inv H k237_31 (by decide +kernel) (as := [.int _]) (b := 314) (r := []) (by rfl) (could e (by omega))
            replace H := h9_31
            rw [← e3] at H
            clear e3
            cases hb : q e with
            | false =>
              rw [hb] at H
              replace H := f_if_ne_f H k237_34 (by decide)
              replace H := f_goto H k237_37 (t := 50) (by decide)
              rw [← fa_cnt_no hb] at H
              exact nxt (Or.inl hb) H
            | true =>
              rw [hb] at H
              replace H := f_if_ne_t H k237_34 (by decide) (t := 40) (by decide)
              replace H := f_iload_n H k237_40 rfl
              replace H := f_iload_n H k237_41 rfl
              have Hbr := f_icmp_ne H k237_42 (t := 47) (by decide)
              clear H
              rcases Hbr with ⟨c4, H⟩ | ⟨c4, H⟩
              · replace H := f_iinc H k237_47 rfl (l2 := [(2, .int (nI (fa_cnt q e) + 1)), (3, .int (nI e)), (0, .ref 314), (1, .int z)]) rfl
                rw [nI_s, ← fa_cnt_yes hb] at H
                replace H := f_ext H (l' := [(3, .int (nI e)), (2, .int (nI (fa_cnt q (e + 1)))), (0, .ref 314), (1, .int z)]) (lE_cons rfl (lE_cons rfl (lE_cons rfl (lE_cons rfl (lE_nil))))) rfl rfl
                exact nxt (Or.inr ⟨hb, fun h => c4 h.symm⟩) H
              · replace H := f_iload_n H k237_45 rfl
                replace H := f_iret H k237_46
                exact ⟨_, _, H, _, rfl, Or.inr (Or.inl ⟨c9, e, by omega, hb, c4.symm, rfl⟩)⟩
      replace H := f_iconst H k237_19 (v := 0) (by decide)
      replace H := f_istore_n H k237_20 (l2 := [(2, .int 0), (0, .ref 314), (1, .int z)]) rfl
      replace H := f_iconst H k237_21 (v := 0) (by decide)
      replace H := f_istore_n H k237_22 (l2 := [(3, .int 0), (2, .int 0), (0, .ref 314), (1, .int z)]) rfl
      replace H := f_ext H (l' := [(3, .int (nI 0)), (2, .int (nI (fa_cnt q 0))), (0, .ref 314), (1, .int z)]) (lE_cons rfl (lE_cons rfl (lE_cons rfl (lE_cons rfl (lE_nil))))) rfl rfl
      exact lp _ 0 (by decide) (fun r hr9 => absurd hr9 (Nat.not_lt_zero r)) H
    · exact neg0 _ (fun h => by
        rcases h.2 with h | ⟨r, h1, h2, h3⟩
        · exact c1 (by rw [h]; decide)
        · have := fa_cnt_le q r
          refine c1 ?_
          rw [h3, Int32.le_iff_toInt_le, nI_toInt (by omega), show (-1 : Int32).toInt = -1 by decide]
          omega) H
