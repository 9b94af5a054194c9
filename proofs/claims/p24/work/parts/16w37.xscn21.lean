theorem k54_0 : lkc 0 (kcode 54) = some (.iconst 1) := by decide +kernel
theorem k54_1 : lkc 1 (kcode 54) = some (.iload_n 1) := by decide +kernel
theorem k54_2 : lkc 2 (kcode 54) = some (.ishl) := by decide +kernel
theorem k54_3 : lkc 3 (kcode 54) = some (.istore_n 3) := by decide +kernel
theorem k54_4 : lkc 4 (kcode 54) = some (.iconst 1) := by decide +kernel
theorem k54_5 : lkc 5 (kcode 54) = some (.istore 4) := by decide +kernel
theorem k54_7 : lkc 7 (kcode 54) = some (.iload 4) := by decide +kernel
theorem k54_9 : lkc 9 (kcode 54) = some (.aload_n 0) := by decide +kernel
theorem k54_10 : lkc 10 (kcode 54) = some (.getfield 26) := by decide +kernel
theorem k54_13 : lkc 13 (kcode 54) = some (.if_icmp .ge 78) := by decide +kernel
theorem k54_16 : lkc 16 (kcode 54) = some (.iload_n 3) := by decide +kernel
theorem k54_17 : lkc 17 (kcode 54) = some (.istore 5) := by decide +kernel
theorem k54_19 : lkc 19 (kcode 54) = some (.iconst 0) := by decide +kernel
theorem k54_20 : lkc 20 (kcode 54) = some (.istore 6) := by decide +kernel
theorem k54_22 : lkc 22 (kcode 54) = some (.iload 6) := by decide +kernel
theorem k54_24 : lkc 24 (kcode 54) = some (.aload_n 0) := by decide +kernel
theorem k54_25 : lkc 25 (kcode 54) = some (.getfield 30) := by decide +kernel
theorem k54_28 : lkc 28 (kcode 54) = some (.if_icmp .ge 49) := by decide +kernel
theorem k54_31 : lkc 31 (kcode 54) = some (.iconst 1) := by decide +kernel
theorem k54_32 : lkc 32 (kcode 54) = some (.aload_n 0) := by decide +kernel
theorem k54_33 : lkc 33 (kcode 54) = some (.iload 6) := by decide +kernel
theorem k54_35 : lkc 35 (kcode 54) = some (.invokevirtual 134) := by decide +kernel
theorem k54_38 : lkc 38 (kcode 54) = some (.ishl) := by decide +kernel
theorem k54_39 : lkc 39 (kcode 54) = some (.iconst 1) := by decide +kernel
theorem k54_40 : lkc 40 (kcode 54) = some (.aload_n 0) := by decide +kernel
theorem k54_41 : lkc 41 (kcode 54) = some (.iload 6) := by decide +kernel
theorem k54_43 : lkc 43 (kcode 54) = some (.invokevirtual 138) := by decide +kernel
theorem k54_46 : lkc 46 (kcode 54) = some (.ishl) := by decide +kernel
theorem k54_47 : lkc 47 (kcode 54) = some (.ior) := by decide +kernel
theorem k54_48 : lkc 48 (kcode 54) = some (.istore 7) := by decide +kernel
theorem k54_50 : lkc 50 (kcode 54) = some (.iload_n 2) := by decide +kernel
theorem k54_51 : lkc 51 (kcode 54) = some (.iload 6) := by decide +kernel
theorem k54_53 : lkc 53 (kcode 54) = some (.ishr) := by decide +kernel
theorem k54_54 : lkc 54 (kcode 54) = some (.iconst 1) := by decide +kernel
theorem k54_55 : lkc 55 (kcode 54) = some (.iand) := by decide +kernel
theorem k54_56 : lkc 56 (kcode 54) = some (.ifCond .eq 15) := by decide +kernel
theorem k54_59 : lkc 59 (kcode 54) = some (.iload_n 3) := by decide +kernel
theorem k54_60 : lkc 60 (kcode 54) = some (.iload 7) := by decide +kernel
theorem k54_62 : lkc 62 (kcode 54) = some (.iand) := by decide +kernel
theorem k54_63 : lkc 63 (kcode 54) = some (.ifCond .eq 8) := by decide +kernel
theorem k54_66 : lkc 66 (kcode 54) = some (.iload_n 3) := by decide +kernel
theorem k54_67 : lkc 67 (kcode 54) = some (.iload 7) := by decide +kernel
theorem k54_69 : lkc 69 (kcode 54) = some (.ior) := by decide +kernel
theorem k54_70 : lkc 70 (kcode 54) = some (.istore_n 3) := by decide +kernel
theorem k54_71 : lkc 71 (kcode 54) = some (.iinc 6 1) := by decide +kernel
theorem k54_74 : lkc 74 (kcode 54) = some (.goto (-52)) := by decide +kernel
theorem k54_77 : lkc 77 (kcode 54) = some (.iload_n 3) := by decide +kernel
theorem k54_78 : lkc 78 (kcode 54) = some (.iload 5) := by decide +kernel
theorem k54_80 : lkc 80 (kcode 54) = some (.if_icmp .ne 5) := by decide +kernel
theorem k54_83 : lkc 83 (kcode 54) = some (.iload_n 3) := by decide +kernel
theorem k54_84 : lkc 84 (kcode 54) = some (.ireturn) := by decide +kernel
theorem k54_85 : lkc 85 (kcode 54) = some (.iinc 4 1) := by decide +kernel
theorem k54_88 : lkc 88 (kcode 54) = some (.goto (-81)) := by decide +kernel
theorem k54_91 : lkc 91 (kcode 54) = some (.iload_n 3) := by decide +kernel
theorem k54_92 : lkc 92 (kcode 54) = some (.ireturn) := by decide +kernel
theorem k240_0 : lkc 0 (kcode 240) = some (.iconst 1) := by decide +kernel
theorem k240_1 : lkc 1 (kcode 240) = some (.iload_n 2) := by decide +kernel
theorem k240_2 : lkc 2 (kcode 240) = some (.ishl) := by decide +kernel
theorem k240_3 : lkc 3 (kcode 240) = some (.istore_n 3) := by decide +kernel
theorem k240_4 : lkc 4 (kcode 240) = some (.iconst 1) := by decide +kernel
theorem k240_5 : lkc 5 (kcode 240) = some (.istore 4) := by decide +kernel
theorem k240_7 : lkc 7 (kcode 240) = some (.iload 4) := by decide +kernel
theorem k240_9 : lkc 9 (kcode 240) = some (.ifCond .eq 111) := by decide +kernel
theorem k240_12 : lkc 12 (kcode 240) = some (.iload_n 3) := by decide +kernel
theorem k240_13 : lkc 13 (kcode 240) = some (.istore 5) := by decide +kernel
theorem k240_15 : lkc 15 (kcode 240) = some (.iconst 0) := by decide +kernel
theorem k240_16 : lkc 16 (kcode 240) = some (.istore 6) := by decide +kernel
theorem k240_18 : lkc 18 (kcode 240) = some (.iload 6) := by decide +kernel
theorem k240_20 : lkc 20 (kcode 240) = some (.aload_n 0) := by decide +kernel
theorem k240_21 : lkc 21 (kcode 240) = some (.getfield 283) := by decide +kernel
theorem k240_24 : lkc 24 (kcode 240) = some (.if_icmp .ge 80) := by decide +kernel
theorem k240_27 : lkc 27 (kcode 240) = some (.iload_n 1) := by decide +kernel
theorem k240_28 : lkc 28 (kcode 240) = some (.iload 6) := by decide +kernel
theorem k240_30 : lkc 30 (kcode 240) = some (.invokestatic 223) := by decide +kernel
theorem k240_33 : lkc 33 (kcode 240) = some (.ifCond .ne 65) := by decide +kernel
theorem k240_36 : lkc 36 (kcode 240) = some (.iload_n 3) := by decide +kernel
theorem k240_37 : lkc 37 (kcode 240) = some (.aload_n 0) := by decide +kernel
theorem k240_38 : lkc 38 (kcode 240) = some (.getfield 40) := by decide +kernel
theorem k240_41 : lkc 41 (kcode 240) = some (.iconst 4) := by decide +kernel
theorem k240_42 : lkc 42 (kcode 240) = some (.iload 6) := by decide +kernel
theorem k240_44 : lkc 44 (kcode 240) = some (.imul) := by decide +kernel
theorem k240_45 : lkc 45 (kcode 240) = some (.iaload) := by decide +kernel
theorem k240_46 : lkc 46 (kcode 240) = some (.invokestatic 223) := by decide +kernel
theorem k240_49 : lkc 49 (kcode 240) = some (.ifCond .ne 21) := by decide +kernel
theorem k240_52 : lkc 52 (kcode 240) = some (.iload_n 3) := by decide +kernel
theorem k240_53 : lkc 53 (kcode 240) = some (.aload_n 0) := by decide +kernel
theorem k240_54 : lkc 54 (kcode 240) = some (.getfield 40) := by decide +kernel
theorem k240_57 : lkc 57 (kcode 240) = some (.iconst 4) := by decide +kernel
theorem k240_58 : lkc 58 (kcode 240) = some (.iload 6) := by decide +kernel
theorem k240_60 : lkc 60 (kcode 240) = some (.imul) := by decide +kernel
theorem k240_61 : lkc 61 (kcode 240) = some (.iconst 1) := by decide +kernel
theorem k240_62 : lkc 62 (kcode 240) = some (.iadd) := by decide +kernel
theorem k240_63 : lkc 63 (kcode 240) = some (.iaload) := by decide +kernel
theorem k240_64 : lkc 64 (kcode 240) = some (.invokestatic 223) := by decide +kernel
theorem k240_67 : lkc 67 (kcode 240) = some (.ifCond .eq 31) := by decide +kernel
theorem k240_70 : lkc 70 (kcode 240) = some (.iload_n 3) := by decide +kernel
theorem k240_71 : lkc 71 (kcode 240) = some (.iconst 1) := by decide +kernel
theorem k240_72 : lkc 72 (kcode 240) = some (.aload_n 0) := by decide +kernel
theorem k240_73 : lkc 73 (kcode 240) = some (.getfield 40) := by decide +kernel
theorem k240_76 : lkc 76 (kcode 240) = some (.iconst 4) := by decide +kernel
theorem k240_77 : lkc 77 (kcode 240) = some (.iload 6) := by decide +kernel
theorem k240_79 : lkc 79 (kcode 240) = some (.imul) := by decide +kernel
theorem k240_80 : lkc 80 (kcode 240) = some (.iaload) := by decide +kernel
theorem k240_81 : lkc 81 (kcode 240) = some (.ishl) := by decide +kernel
theorem k240_82 : lkc 82 (kcode 240) = some (.iconst 1) := by decide +kernel
theorem k240_83 : lkc 83 (kcode 240) = some (.aload_n 0) := by decide +kernel
theorem k240_84 : lkc 84 (kcode 240) = some (.getfield 40) := by decide +kernel
theorem k240_87 : lkc 87 (kcode 240) = some (.iconst 4) := by decide +kernel
theorem k240_88 : lkc 88 (kcode 240) = some (.iload 6) := by decide +kernel
theorem k240_90 : lkc 90 (kcode 240) = some (.imul) := by decide +kernel
theorem k240_91 : lkc 91 (kcode 240) = some (.iconst 1) := by decide +kernel
theorem k240_92 : lkc 92 (kcode 240) = some (.iadd) := by decide +kernel
theorem k240_93 : lkc 93 (kcode 240) = some (.iaload) := by decide +kernel
theorem k240_94 : lkc 94 (kcode 240) = some (.ishl) := by decide +kernel
theorem k240_95 : lkc 95 (kcode 240) = some (.ior) := by decide +kernel
theorem k240_96 : lkc 96 (kcode 240) = some (.ior) := by decide +kernel
theorem k240_97 : lkc 97 (kcode 240) = some (.istore_n 3) := by decide +kernel
theorem k240_98 : lkc 98 (kcode 240) = some (.iinc 6 1) := by decide +kernel
theorem k240_101 : lkc 101 (kcode 240) = some (.goto (-83)) := by decide +kernel
theorem k240_104 : lkc 104 (kcode 240) = some (.iload_n 3) := by decide +kernel
theorem k240_105 : lkc 105 (kcode 240) = some (.iload 5) := by decide +kernel
theorem k240_107 : lkc 107 (kcode 240) = some (.if_icmp .eq 7) := by decide +kernel
theorem k240_110 : lkc 110 (kcode 240) = some (.iconst 1) := by decide +kernel
theorem k240_111 : lkc 111 (kcode 240) = some (.goto 4) := by decide +kernel
theorem k240_114 : lkc 114 (kcode 240) = some (.iconst 0) := by decide +kernel
theorem k240_115 : lkc 115 (kcode 240) = some (.istore 4) := by decide +kernel
theorem k240_117 : lkc 117 (kcode 240) = some (.goto (-110)) := by decide +kernel
theorem k240_120 : lkc 120 (kcode 240) = some (.iload_n 3) := by decide +kernel
theorem k240_121 : lkc 121 (kcode 240) = some (.ireturn) := by decide +kernel
/-! forward: what can be come to, both sides -/
theorem xT_ab {m : xM} {C S : Nat} {A B Y : Nat → Nat} (hT : xT m C S A B Y) : ∀ s, s < S → A s < C ∧ B s < C := fun s hs => ⟨(hT.2.2.2.2.1 s hs).2.2.2.1, (hT.2.2.2.2.1 s hs).2.2.2.2.1⟩
theorem mT_ab {m : xM} {C S : Nat} {A B Y : Nat → Nat} (hT : mT m C S A B Y) : ∀ s, s < S → A s < C ∧ B s < C := fun s hs => ⟨(hT.2.2.2.2 s hs).2.2.2.1, (hT.2.2.2.2 s hs).2.2.2.2.1⟩
theorem p2_8 {C : Nat} (hC : C ≤ 8) : (2 : Nat) ^ C ≤ 256 := (Nat.pow_le_pow_right (by omega) hC : (2 : Nat) ^ C ≤ 2 ^ 8)
theorem c_reachedFrom {m : xM} {C S w o c : Nat} {A B Y : Nat → Nat} (hr : rS m) (hT : xT m C S A B Y) (ho : ∀ i, i < S → o.testBit i = !(w.testBit i)) (ho2 : o < 65536) (hc : c < C) : fC 54 [.ref 3, .int (nI c), .int (nI o)] m (fun rv m' => rv = some (.int (nI (rcF A B S w c))) ∧ m = m') := by
  refine fC_of (by decide) (fun d n P H => ?_)
  have hC8 : C ≤ 8 := hT.2.2.1
  have hS12 : S ≤ 12 := hT.2.2.2.1
  have hab := xT_ab hT
  have pC := p2_8 hC8
  have lS : ∀ n N, n ≤ N → ∀ s y r v7, s ≤ S → y < 2 ^ C → (∀ v7, xF 54 (xw d) P N 77 [(6, .int (nI S)), (3, .int (nI (swp A B w S y))), (7, .int v7), (5, .int (nI y)), (4, .int (nI r)), (0, .ref 3), (1, .int (nI c)), (2, .int (nI o))] [] m → ∃ rv m', P rv m' ∧ rv = some (.int (nI (rcF A B S w c))) ∧ m = m') → xF 54 (xw d) P n 22 [(6, .int (nI s)), (3, .int (nI (swp A B w s y))), (7, .int v7), (5, .int (nI y)), (4, .int (nI r)), (0, .ref 3), (1, .int (nI c)), (2, .int (nI o))] [] m → ∃ rv m', P rv m' ∧ rv = some (.int (nI (rcF A B S w c))) ∧ m = m' := by
    intro n
    induction n with
    | zero => exact fun N _ s y r v7 _ _ _ H => (xF_0 H).elim
    | succ n ih =>
      intro N hN s y r v7 hs hy kk H
      have hl := swp_lt (w := w) hab hy s hs
      have no : ∀ v7, ¬ (w.testBit s = false ∧ ((swp A B w s y).testBit (A s) = true ∨ (swp A B w s y).testBit (B s) = true)) → s < S → xF 54 (xw d) P n 71 [(7, .int v7), (6, .int (nI s)), (3, .int (nI (swp A B w s y))), (5, .int (nI y)), (4, .int (nI r)), (0, .ref 3), (1, .int (nI c)), (2, .int (nI o))] [] m → ∃ rv m', P rv m' ∧ rv = some (.int (nI (rcF A B S w c))) ∧ m = m' := by
        intro v7 h9 hs2 H
        replace H := f_iinc H k54_71 rfl (l2 := [(6, .int (nI s + 1)), (7, .int v7), (3, .int (nI (swp A B w s y))), (5, .int (nI y)), (4, .int (nI r)), (0, .ref 3), (1, .int (nI c)), (2, .int (nI o))]) rfl
        replace H := f_goto H k54_74 (t := 22) (by decide)
        rw [nI_s, ← swp_f h9] at H
        replace H := f_ext H (l' := [(6, .int (nI (s + 1))), (3, .int (nI (swp A B w (s + 1) y))), (7, .int v7), (5, .int (nI y)), (4, .int (nI r)), (0, .ref 3), (1, .int (nI c)), (2, .int (nI o))]) (lE_cons rfl (lE_cons rfl (lE_cons rfl (lE_cons rfl (lE_cons rfl (lE_cons rfl (lE_cons rfl (lE_cons rfl (lE_nil))))))))) rfl rfl
        exact ih N (by omega) (s + 1) y r _ (by omega) hy kk H
      replace H := f1_iload H k54_22 rfl
      replace H := f_aload_n H k54_24 rfl
      replace H := f_gi H k54_25 (ci := 5) (f := 1) (by decide +kernel) (by decide)
      rw [hT.2.1] at H
      have Hbr := f_icmp_ge H k54_28 (t := 77) (by decide)
      clear H
      rcases Hbr with ⟨c0, H⟩ | ⟨c0, H⟩
      · rw [nxle (by omega) (by omega)] at c0
        have es : s = S := by omega
        subst es
        exact kk _ (f_up H (by omega))
      · rw [nxle (by omega) (by omega)] at c0
        have hs2 : s < S := by omega
        obtain ⟨hA, hB⟩ := hab s hs2
        replace H := f_iconst H k54_31 (v := 1) (by decide)
        replace H := f_aload_n H k54_32 rfl
        replace H := f_iload H k54_33 rfl
        obtain ⟨rv, m3, ⟨rfl, e3⟩, h9_35⟩ := f_inv H k54_35 (by decide +kernel) (as := [.int _]) (b := 3) (r := [.int _]) (by rfl) (cn_endA hr hT hs2)
        replace H := h9_35
        rw [← e3] at H
        clear e3
        replace H := f_ishl H k54_38
        replace H := f_iconst H k54_39 (v := 1) (by decide)
        replace H := f_aload_n H k54_40 rfl
        replace H := f_iload H k54_41 rfl
        obtain ⟨rv, m4, ⟨rfl, e3⟩, h9_43⟩ := f_inv H k54_43 (by decide +kernel) (as := [.int _]) (b := 3) (r := [.int _, .int _]) (by rfl) (cn_endB hr hT hs2)
        replace H := h9_43
        rw [← e3] at H
        clear e3
        replace H := f_ishl H k54_46
        replace H := f_ior H k54_47
        rw [shl_n (by omega), shl_n (by omega), fa_or] at H
        replace H := f_istore H k54_48 (l2 := [(7, .int (nI (2 ^ A s ||| 2 ^ B s))), (6, .int (nI s)), (3, .int (nI (swp A B w s y))), (5, .int (nI y)), (4, .int (nI r)), (0, .ref 3), (1, .int (nI c)), (2, .int (nI o))]) rfl
        replace H := f_iload_n H k54_50 rfl
        replace H := f_iload H k54_51 rfl
        replace H := f_ishr H k54_53
        replace H := f_iconst H k54_54 (v := 1) (by decide)
        replace H := f_iand H k54_55
        rw [has_n (by omega) (by omega), ho s hs2] at H
        cases hb : w.testBit s with
        | true =>
          rw [hb] at H
          replace H := f_if_eq_t H k54_56 rfl (t := 71) (by decide)
          exact no _ (fun h => by rw [hb] at h; cases h.1) hs2 H
        | false =>
          rw [hb] at H
          replace H := f_if_eq_f H k54_56 (by decide)
          replace H := f_iload_n H k54_59 rfl
          replace H := f_iload H k54_60 rfl
          replace H := f_iand H k54_62
          rw [fa_and] at H
          have hlt : swp A B w s y &&& (2 ^ A s ||| 2 ^ B s) < 2 ^ C := Nat.lt_of_le_of_lt Nat.and_le_left hl
          have Hbr := f_if_eq H k54_63 (t := 71) (by decide)
          clear H
          rcases Hbr with ⟨c1, H⟩ | ⟨c1, H⟩
          · rw [show (0 : Int32) = nI 0 from rfl, nI_inj (by omega) (by omega)] at c1
            exact no _ (fun h => anb.mp c1 h.2) hs2 H
          · rw [show (0 : Int32) = nI 0 from rfl, nI_inj (by omega) (by omega)] at c1
            have h2 : (swp A B w s y).testBit (A s) = true ∨ (swp A B w s y).testBit (B s) = true := by
              by_cases z : (swp A B w s y).testBit (A s) = true ∨ (swp A B w s y).testBit (B s) = true
              · exact z
              · exact absurd (anb.mpr z) c1
            replace H := f_iload_n H k54_66 rfl
            replace H := f_iload H k54_67 rfl
            replace H := f_ior H k54_69
            rw [fa_or, ← swp_t hb h2] at H
            replace H := f_istore_n H k54_70 (l2 := [(3, .int (nI (swp A B w (s + 1) y))), (7, .int (nI (2 ^ A s ||| 2 ^ B s))), (6, .int (nI s)), (5, .int (nI y)), (4, .int (nI r)), (0, .ref 3), (1, .int (nI c)), (2, .int (nI o))]) rfl
            replace H := f_iinc H k54_71 rfl (l2 := [(6, .int (nI s + 1)), (3, .int (nI (swp A B w (s + 1) y))), (7, .int (nI (2 ^ A s ||| 2 ^ B s))), (5, .int (nI y)), (4, .int (nI r)), (0, .ref 3), (1, .int (nI c)), (2, .int (nI o))]) rfl
            replace H := f_goto H k54_74 (t := 22) (by decide)
            rw [nI_s] at H
            exact ih N (by omega) (s + 1) y r _ (by omega) hy kk H
  have lO : ∀ n k v5 v6 v7, k + 1 ≤ C → xF 54 (xw d) P n 7 [(4, .int (nI (k + 1))), (3, .int (nI (itn (swp A B w S) k (2 ^ c)))), (5, .int v5), (6, .int v6), (7, .int v7), (0, .ref 3), (1, .int (nI c)), (2, .int (nI o))] [] m → ∃ rv m', P rv m' ∧ rv = some (.int (nI (rcF A B S w c))) ∧ m = m' := by
    intro n
    induction n with
    | zero => exact fun k v5 v6 v7 _ H => (xF_0 H).elim
    | succ n ih =>
      intro k v5 v6 v7 hk H
      have hy := swp_it (w := w) hab hc k
      replace H := f1_iload H k54_7 rfl
      replace H := f_aload_n H k54_9 rfl
      replace H := f_gi H k54_10 (ci := 5) (f := 0) (by decide +kernel) (by decide)
      rw [hT.1] at H
      have Hbr := f_icmp_ge H k54_13 (t := 91) (by decide)
      clear H
      rcases Hbr with ⟨c0, H⟩ | ⟨c0, H⟩
      · rw [nxle (by omega) (by omega)] at c0
        replace H := f_iload_n H k54_91 rfl
        replace H := f_iret H k54_92
        exact ⟨_, _, H, by rw [rcF_u hab hC8 hc (swp_fix (w := w) hab hc (k := k) (by omega))], rfl⟩
      · rw [nxle (by omega) (by omega)] at c0
        replace H := f_iload_n H k54_16 rfl
        replace H := f_istore H k54_17 (l2 := [(5, .int (nI (itn (swp A B w S) k (2 ^ c)))), (4, .int (nI (k + 1))), (3, .int (nI (itn (swp A B w S) k (2 ^ c)))), (6, .int v6), (7, .int v7), (0, .ref 3), (1, .int (nI c)), (2, .int (nI o))]) rfl
        replace H := f_iconst H k54_19 (v := 0) (by decide)
        replace H := f_istore H k54_20 (l2 := [(6, .int 0), (5, .int (nI (itn (swp A B w S) k (2 ^ c)))), (4, .int (nI (k + 1))), (3, .int (nI (itn (swp A B w S) k (2 ^ c)))), (7, .int v7), (0, .ref 3), (1, .int (nI c)), (2, .int (nI o))]) rfl
        replace H := f_ext H (l' := [(6, .int (nI 0)), (3, .int (nI (itn (swp A B w S) k (2 ^ c)))), (7, .int v7), (5, .int (nI (itn (swp A B w S) k (2 ^ c)))), (4, .int (nI (k + 1))), (0, .ref 3), (1, .int (nI c)), (2, .int (nI o))]) (lE_cons rfl (lE_cons rfl (lE_cons rfl (lE_cons rfl (lE_cons rfl (lE_cons rfl (lE_cons rfl (lE_cons rfl (lE_nil))))))))) rfl rfl
        refine lS n n (Nat.le_refl _) 0 _ (k + 1) _ (Nat.zero_le _) hy (fun w7 H => ?_) H
        have hl := swp_lt (w := w) hab hy S (Nat.le_refl _)
        replace H := f_iload_n H k54_77 rfl
        replace H := f_iload H k54_78 rfl
        have Hbr := f_icmp_ne H k54_80 (t := 85) (by decide)
        clear H
        rcases Hbr with ⟨c1, H⟩ | ⟨c1, H⟩
        · rw [nI_inj (by omega) (by omega)] at c1
          replace H := f_iinc H k54_85 rfl (l2 := [(4, .int (nI (k + 1) + 1)), (6, .int (nI S)), (3, .int (nI (swp A B w S (itn (swp A B w S) k (2 ^ c))))), (7, .int w7), (5, .int (nI (itn (swp A B w S) k (2 ^ c)))), (0, .ref 3), (1, .int (nI c)), (2, .int (nI o))]) rfl
          replace H := f_goto H k54_88 (t := 7) (by decide)
          rw [nI_s] at H
          replace H := f_ext H (l' := [(4, .int (nI (k + 1 + 1))), (3, .int (nI (itn (swp A B w S) (k + 1) (2 ^ c)))), (5, .int (nI (itn (swp A B w S) k (2 ^ c)))), (6, .int (nI S)), (7, .int w7), (0, .ref 3), (1, .int (nI c)), (2, .int (nI o))]) (lE_cons rfl (lE_cons rfl (lE_cons rfl (lE_cons rfl (lE_cons rfl (lE_cons rfl (lE_cons rfl (lE_cons rfl (lE_nil))))))))) rfl rfl
          exact ih (k + 1) _ _ _ (by omega) H
        · rw [nI_inj (by omega) (by omega)] at c1
          replace H := f_iload_n H k54_83 rfl
          replace H := f_iret H k54_84
          exact ⟨_, _, H, by rw [c1, rcF_u hab hC8 hc c1], rfl⟩
  replace H := f_iconst H k54_0 (v := 1) (by decide)
  replace H := f_iload_n H k54_1 rfl
  replace H := f_ishl H k54_2
  rw [shl_n (by omega)] at H
  replace H := f_istore_n H k54_3 (l2 := [(3, .int (nI (2 ^ c))), (0, .ref 3), (1, .int (nI c)), (2, .int (nI o))]) rfl
  replace H := f_iconst H k54_4 (v := 1) (by decide)
  replace H := f_istore H k54_5 (l2 := [(4, .int 1), (3, .int (nI (2 ^ c))), (0, .ref 3), (1, .int (nI c)), (2, .int (nI o))]) rfl
  replace H := f_ext H (l' := [(4, .int (nI (0 + 1))), (3, .int (nI (itn (swp A B w S) 0 (2 ^ c)))), (5, .int 0), (6, .int 0), (7, .int 0), (0, .ref 3), (1, .int (nI c)), (2, .int (nI o))]) (lE_cons rfl (lE_cons rfl (lE_cons rfl (lE_cons rfl (lE_cons rfl (lE_nil)))))) rfl rfl
  exact lO _ 0 _ _ _ (by omega) H
theorem c_mreached {m : xM} {C S w c : Nat} {A B Y : Nat → Nat} (hr : rS m) (hT : mT m C S A B Y) (hw2 : w < 65536) (hc : c < C) : fC 240 [.ref 314, .int (nI w), .int (nI c)] m (fun rv m' => rv = some (.int (nI (rcF A B S w c))) ∧ m = m') := by
  refine fC_of (by decide) (fun d n P H => ?_)
  have hC8 : C ≤ 8 := hT.2.2.1
  have hS12 : S ≤ 12 := hT.2.2.2.1
  have hab := mT_ab hT
  have pC := p2_8 hC8
  have lS : ∀ n N, n ≤ N → ∀ s y g, s ≤ S → y < 2 ^ C → (xF 240 (xw d) P N 104 [(6, .int (nI S)), (3, .int (nI (swp A B w S y))), (5, .int (nI y)), (4, .int g), (0, .ref 314), (1, .int (nI w)), (2, .int (nI c))] [] m → ∃ rv m', P rv m' ∧ rv = some (.int (nI (rcF A B S w c))) ∧ m = m') → xF 240 (xw d) P n 18 [(6, .int (nI s)), (3, .int (nI (swp A B w s y))), (5, .int (nI y)), (4, .int g), (0, .ref 314), (1, .int (nI w)), (2, .int (nI c))] [] m → ∃ rv m', P rv m' ∧ rv = some (.int (nI (rcF A B S w c))) ∧ m = m' := by
    intro n
    induction n with
    | zero => exact fun N _ s y g _ _ _ H => (xF_0 H).elim
    | succ n ih =>
      intro N hN s y g hs hy kk H
      have hl := swp_lt (w := w) hab hy s hs
      have no : ¬ (w.testBit s = false ∧ ((swp A B w s y).testBit (A s) = true ∨ (swp A B w s y).testBit (B s) = true)) → s < S → xF 240 (xw d) P n 98 [(6, .int (nI s)), (3, .int (nI (swp A B w s y))), (5, .int (nI y)), (4, .int g), (0, .ref 314), (1, .int (nI w)), (2, .int (nI c))] [] m → ∃ rv m', P rv m' ∧ rv = some (.int (nI (rcF A B S w c))) ∧ m = m' := by
        intro h9 hs2 H
        replace H := f_iinc H k240_98 rfl (l2 := [(6, .int (nI s + 1)), (3, .int (nI (swp A B w s y))), (5, .int (nI y)), (4, .int g), (0, .ref 314), (1, .int (nI w)), (2, .int (nI c))]) rfl
        replace H := f_goto H k240_101 (t := 18) (by decide)
        rw [nI_s, ← swp_f h9] at H
        exact ih N (by omega) (s + 1) y g (by omega) hy kk H
      replace H := f1_iload H k240_18 rfl
      replace H := f_aload_n H k240_20 rfl
      replace H := f_gi H k240_21 (ci := 12) (f := 26) (by decide +kernel) (by decide)
      rw [hT.2.1] at H
      have Hbr := f_icmp_ge H k240_24 (t := 104) (by decide)
      clear H
      rcases Hbr with ⟨c0, H⟩ | ⟨c0, H⟩
      · rw [nxle (by omega) (by omega)] at c0
        have es : s = S := by omega
        subst es
        exact kk (f_up H (by omega))
      · rw [nxle (by omega) (by omega)] at c0
        have hs2 : s < S := by omega
        obtain ⟨hA, hB⟩ := hab s hs2
        obtain ⟨s1, s2, s3, -⟩ := hT.2.2.2.2 s hs2
        replace H := f_iload_n H k240_27 rfl
        replace H := f_iload H k240_28 rfl
        obtain ⟨rv, m3, ⟨rfl, e3⟩, h9_30⟩ := f_ins H k240_30 (by decide +kernel) (as := [.int _, .int _]) (r := []) (by rfl) (c_hasN (k := w) (j := s) (by omega) (by omega))
        replace H := h9_30
        rw [← e3] at H
        clear e3
        cases hb : w.testBit s with
        | true =>
          rw [hb] at H
          replace H := f_if_ne_t H k240_33 (by decide) (t := 98) (by decide)
          exact no (fun h => by rw [hb] at h; cases h.1) hs2 H
        | false =>
          rw [hb] at H
          replace H := f_if_ne_f H k240_33 rfl
          have go : ∀ n2, n2 ≤ n → ((swp A B w s y).testBit (A s) = true ∨ (swp A B w s y).testBit (B s) = true) → xF 240 (xw d) P n2 70 [(6, .int (nI s)), (3, .int (nI (swp A B w s y))), (5, .int (nI y)), (4, .int g), (0, .ref 314), (1, .int (nI w)), (2, .int (nI c))] [] m → ∃ rv m', P rv m' ∧ rv = some (.int (nI (rcF A B S w c))) ∧ m = m' := by
            intro n2 hn2 h2 H
            replace H := f_up H hn2
            replace H := f_iload_n H k240_70 rfl
            replace H := f_iconst H k240_71 (v := 1) (by decide)
            replace H := f_aload_n H k240_72 rfl
            replace H := f_gr H k240_73 (ci := 12) (f := 19) (x := 320) (by decide +kernel) (by decide) (hr 314 19 320 rfl)
            replace H := f_iconst H k240_76 (v := 4) (by decide)
            replace H := f_iload H k240_77 rfl
            replace H := f_imul H k240_79
            have Hob := f_iald H k240_80 (c := 48) (by decide)
            clear H
            obtain ⟨hb80, H⟩ := Hob
            replace H := f_ishl H k240_81
            rw [show (4 : Int32) = nI 4 from rfl, nI_mul, nI_clamp (by omega), s1, shl_n (by omega)] at H
            replace H := f_iconst H k240_82 (v := 1) (by decide)
            replace H := f_aload_n H k240_83 rfl
            replace H := f_gr H k240_84 (ci := 12) (f := 19) (x := 320) (by decide +kernel) (by decide) (hr 314 19 320 rfl)
            replace H := f_iconst H k240_87 (v := 4) (by decide)
            replace H := f_iload H k240_88 rfl
            replace H := f_imul H k240_90
            replace H := f_iconst H k240_91 (v := 1) (by decide)
            replace H := f_iadd H k240_92
            have Hob := f_iald H k240_93 (c := 48) (by decide)
            clear H
            obtain ⟨hb93, H⟩ := Hob
            replace H := f_ishl H k240_94
            replace H := f_ior H k240_95
            replace H := f_ior H k240_96
            rw [show (4 : Int32) = nI 4 from rfl, nI_mul, nI_s, nI_clamp (by omega), s2, shl_n (by omega), fa_or, fa_or, ← swp_t hb h2] at H
            replace H := f_istore_n H k240_97 (l2 := [(3, .int (nI (swp A B w (s + 1) y))), (6, .int (nI s)), (5, .int (nI y)), (4, .int g), (0, .ref 314), (1, .int (nI w)), (2, .int (nI c))]) rfl
            replace H := f_iinc H k240_98 rfl (l2 := [(6, .int (nI s + 1)), (3, .int (nI (swp A B w (s + 1) y))), (5, .int (nI y)), (4, .int g), (0, .ref 314), (1, .int (nI w)), (2, .int (nI c))]) rfl
            replace H := f_goto H k240_101 (t := 18) (by decide)
            rw [nI_s] at H
            exact ih N (by omega) (s + 1) y g (by omega) hy kk H
          replace H := f_iload_n H k240_36 rfl
          replace H := f_aload_n H k240_37 rfl
          replace H := f_gr H k240_38 (ci := 12) (f := 19) (x := 320) (by decide +kernel) (by decide) (hr 314 19 320 rfl)
          replace H := f_iconst H k240_41 (v := 4) (by decide)
          replace H := f_iload H k240_42 rfl
          replace H := f_imul H k240_44
          have Hob := f_iald H k240_45 (c := 48) (by decide)
          clear H
          obtain ⟨hb45, H⟩ := Hob
          rw [show (4 : Int32) = nI 4 from rfl, nI_mul, nI_clamp (by omega), s1] at H
          obtain ⟨rv, m4, ⟨rfl, e3⟩, h9_46⟩ := f_ins H k240_46 (by decide +kernel) (as := [.int _, .int _]) (r := []) (by rfl) (c_hasN (k := swp A B w s y) (j := A s) (by omega) (by omega))
          replace H := h9_46
          rw [← e3] at H
          clear e3
          cases ha : (swp A B w s y).testBit (A s) with
          | true =>
            rw [ha] at H
            replace H := f_if_ne_t H k240_49 (by decide) (t := 70) (by decide)
            exact go _ (Nat.le_refl _) (Or.inl ha) H
          | false =>
            rw [ha] at H
            replace H := f_if_ne_f H k240_49 rfl
            replace H := f_iload_n H k240_52 rfl
            replace H := f_aload_n H k240_53 rfl
            replace H := f_gr H k240_54 (ci := 12) (f := 19) (x := 320) (by decide +kernel) (by decide) (hr 314 19 320 rfl)
            replace H := f_iconst H k240_57 (v := 4) (by decide)
            replace H := f_iload H k240_58 rfl
            replace H := f_imul H k240_60
            replace H := f_iconst H k240_61 (v := 1) (by decide)
            replace H := f_iadd H k240_62
            have Hob := f_iald H k240_63 (c := 48) (by decide)
            clear H
            obtain ⟨hb63, H⟩ := Hob
            rw [show (4 : Int32) = nI 4 from rfl, nI_mul, nI_s, nI_clamp (by omega), s2] at H
            obtain ⟨rv, m5, ⟨rfl, e3⟩, h9_64⟩ := f_ins H k240_64 (by decide +kernel) (as := [.int _, .int _]) (r := []) (by rfl) (c_hasN (k := swp A B w s y) (j := B s) (by omega) (by omega))
            replace H := h9_64
            rw [← e3] at H
            clear e3
            cases hbb : (swp A B w s y).testBit (B s) with
            | true =>
              rw [hbb] at H
              replace H := f_if_eq_f H k240_67 (by decide)
              exact go _ (Nat.le_refl _) (Or.inr hbb) H
            | false =>
              rw [hbb] at H
              replace H := f_if_eq_t H k240_67 rfl (t := 98) (by decide)
              exact no (fun h => by rcases h.2 with q | q; (rw [ha] at q; cases q); (rw [hbb] at q; cases q)) hs2 H
  have lO : ∀ n k g v5 v6, (g = 1 ∨ (g = 0 ∧ swp A B w S (itn (swp A B w S) k (2 ^ c)) = itn (swp A B w S) k (2 ^ c))) → xF 240 (xw d) P n 7 [(4, .int g), (3, .int (nI (itn (swp A B w S) k (2 ^ c)))), (5, .int v5), (6, .int v6), (0, .ref 314), (1, .int (nI w)), (2, .int (nI c))] [] m → ∃ rv m', P rv m' ∧ rv = some (.int (nI (rcF A B S w c))) ∧ m = m' := by
    intro n
    induction n with
    | zero => exact fun k g v5 v6 _ H => (xF_0 H).elim
    | succ n ih =>
      intro k g v5 v6 hg H
      have hy := swp_it (w := w) hab hc k
      replace H := f1_iload H k240_7 rfl
      rcases hg with rfl | ⟨rfl, hf⟩
      · replace H := f_if_eq_f H k240_9 (by decide)
        replace H := f_iload_n H k240_12 rfl
        replace H := f_istore H k240_13 (l2 := [(5, .int (nI (itn (swp A B w S) k (2 ^ c)))), (4, .int 1), (3, .int (nI (itn (swp A B w S) k (2 ^ c)))), (6, .int v6), (0, .ref 314), (1, .int (nI w)), (2, .int (nI c))]) rfl
        replace H := f_iconst H k240_15 (v := 0) (by decide)
        replace H := f_istore H k240_16 (l2 := [(6, .int 0), (5, .int (nI (itn (swp A B w S) k (2 ^ c)))), (4, .int 1), (3, .int (nI (itn (swp A B w S) k (2 ^ c)))), (0, .ref 314), (1, .int (nI w)), (2, .int (nI c))]) rfl
        replace H := f_ext H (l' := [(6, .int (nI 0)), (3, .int (nI (itn (swp A B w S) k (2 ^ c)))), (5, .int (nI (itn (swp A B w S) k (2 ^ c)))), (4, .int 1), (0, .ref 314), (1, .int (nI w)), (2, .int (nI c))]) (lE_cons rfl (lE_cons rfl (lE_cons rfl (lE_cons rfl (lE_cons rfl (lE_cons rfl (lE_cons rfl (lE_nil)))))))) rfl rfl
        refine lS n n (Nat.le_refl _) 0 _ 1 (Nat.zero_le _) hy (fun H => ?_) H
        have hl := swp_lt (w := w) hab hy S (Nat.le_refl _)
        replace H := f_iload_n H k240_104 rfl
        replace H := f_iload H k240_105 rfl
        have Hbr := f_icmp_eq H k240_107 (t := 114) (by decide)
        clear H
        rcases Hbr with ⟨c1, H⟩ | ⟨c1, H⟩
        · rw [nI_inj (by omega) (by omega)] at c1
          replace H := f_iconst H k240_114 (v := 0) (by decide)
          replace H := f_istore H k240_115 (l2 := [(4, .int 0), (6, .int (nI S)), (3, .int (nI (swp A B w S (itn (swp A B w S) k (2 ^ c))))), (5, .int (nI (itn (swp A B w S) k (2 ^ c)))), (0, .ref 314), (1, .int (nI w)), (2, .int (nI c))]) rfl
          replace H := f_goto H k240_117 (t := 7) (by decide)
          replace H := f_ext H (l' := [(4, .int 0), (3, .int (nI (itn (swp A B w S) (k + 1) (2 ^ c)))), (5, .int (nI (itn (swp A B w S) k (2 ^ c)))), (6, .int (nI S)), (0, .ref 314), (1, .int (nI w)), (2, .int (nI c))]) (lE_cons rfl (lE_cons rfl (lE_cons rfl (lE_cons rfl (lE_cons rfl (lE_cons rfl (lE_cons rfl (lE_nil)))))))) rfl rfl
          exact ih (k + 1) 0 _ _ (Or.inr ⟨rfl, by rw [itn_s, c1, c1]⟩) H
        · replace H := f_iconst H k240_110 (v := 1) (by decide)
          replace H := f_goto H k240_111 (t := 115) (by decide)
          replace H := f_istore H k240_115 (l2 := [(4, .int 1), (6, .int (nI S)), (3, .int (nI (swp A B w S (itn (swp A B w S) k (2 ^ c))))), (5, .int (nI (itn (swp A B w S) k (2 ^ c)))), (0, .ref 314), (1, .int (nI w)), (2, .int (nI c))]) rfl
          replace H := f_goto H k240_117 (t := 7) (by decide)
          replace H := f_ext H (l' := [(4, .int 1), (3, .int (nI (itn (swp A B w S) (k + 1) (2 ^ c)))), (5, .int (nI (itn (swp A B w S) k (2 ^ c)))), (6, .int (nI S)), (0, .ref 314), (1, .int (nI w)), (2, .int (nI c))]) (lE_cons rfl (lE_cons rfl (lE_cons rfl (lE_cons rfl (lE_cons rfl (lE_cons rfl (lE_cons rfl (lE_nil)))))))) rfl rfl
          exact ih (k + 1) 1 _ _ (Or.inl rfl) H
      · replace H := f_if_eq_t H k240_9 rfl (t := 120) (by decide)
        replace H := f_iload_n H k240_120 rfl
        replace H := f_iret H k240_121
        exact ⟨_, _, H, by rw [rcF_u hab hC8 hc hf], rfl⟩
  replace H := f_iconst H k240_0 (v := 1) (by decide)
  replace H := f_iload_n H k240_1 rfl
  replace H := f_ishl H k240_2
  rw [shl_n (by omega)] at H
  replace H := f_istore_n H k240_3 (l2 := [(3, .int (nI (2 ^ c))), (0, .ref 314), (1, .int (nI w)), (2, .int (nI c))]) rfl
  replace H := f_iconst H k240_4 (v := 1) (by decide)
  replace H := f_istore H k240_5 (l2 := [(4, .int 1), (3, .int (nI (2 ^ c))), (0, .ref 314), (1, .int (nI w)), (2, .int (nI c))]) rfl
  replace H := f_ext H (l' := [(4, .int 1), (3, .int (nI (itn (swp A B w S) 0 (2 ^ c)))), (5, .int 0), (6, .int 0), (0, .ref 314), (1, .int (nI w)), (2, .int (nI c))]) (lE_cons rfl (lE_cons rfl (lE_cons rfl (lE_cons rfl (lE_cons rfl (lE_nil)))))) rfl rfl
  exact lO _ 0 _ _ _ (Or.inl rfl) H
