theorem k140_0 : lkc 0 (kcode 140) = some (.aload_n 0) := by decide +kernel
theorem k140_1 : lkc 1 (kcode 140) = some (.iload_n 1) := by decide +kernel
theorem k140_2 : lkc 2 (kcode 140) = some (.invokevirtual 159) := by decide +kernel
theorem k140_5 : lkc 5 (kcode 140) = some (.ifCond .eq 16) := by decide +kernel
theorem k140_8 : lkc 8 (kcode 140) = some (.aload_n 0) := by decide +kernel
theorem k140_9 : lkc 9 (kcode 140) = some (.iload_n 2) := by decide +kernel
theorem k140_10 : lkc 10 (kcode 140) = some (.invokevirtual 159) := by decide +kernel
theorem k140_13 : lkc 13 (kcode 140) = some (.ifCond .eq 8) := by decide +kernel
theorem k140_16 : lkc 16 (kcode 140) = some (.iload_n 1) := by decide +kernel
theorem k140_17 : lkc 17 (kcode 140) = some (.iload_n 2) := by decide +kernel
theorem k140_18 : lkc 18 (kcode 140) = some (.if_icmp .ne 5) := by decide +kernel
theorem k140_21 : lkc 21 (kcode 140) = some (.iconst (-1)) := by decide +kernel
theorem k140_22 : lkc 22 (kcode 140) = some (.ireturn) := by decide +kernel
theorem k140_23 : lkc 23 (kcode 140) = some (.aload_n 0) := by decide +kernel
theorem k140_24 : lkc 24 (kcode 140) = some (.invokevirtual 170) := by decide +kernel
theorem k140_27 : lkc 27 (kcode 140) = some (.istore_n 3) := by decide +kernel
theorem k140_28 : lkc 28 (kcode 140) = some (.iconst (-1)) := by decide +kernel
theorem k140_29 : lkc 29 (kcode 140) = some (.istore 4) := by decide +kernel
theorem k140_31 : lkc 31 (kcode 140) = some (.bipush 13) := by decide +kernel
theorem k140_33 : lkc 33 (kcode 140) = some (.istore 5) := by decide +kernel
theorem k140_35 : lkc 35 (kcode 140) = some (.iconst 0) := by decide +kernel
theorem k140_36 : lkc 36 (kcode 140) = some (.istore 6) := by decide +kernel
theorem k140_38 : lkc 38 (kcode 140) = some (.iload 6) := by decide +kernel
theorem k140_40 : lkc 40 (kcode 140) = some (.iconst 1) := by decide +kernel
theorem k140_41 : lkc 41 (kcode 140) = some (.aload_n 0) := by decide +kernel
theorem k140_42 : lkc 42 (kcode 140) = some (.getfield 19) := by decide +kernel
theorem k140_45 : lkc 45 (kcode 140) = some (.getfield 156) := by decide +kernel
theorem k140_48 : lkc 48 (kcode 140) = some (.ishl) := by decide +kernel
theorem k140_49 : lkc 49 (kcode 140) = some (.if_icmp .ge 60) := by decide +kernel
theorem k140_52 : lkc 52 (kcode 140) = some (.iload 6) := by decide +kernel
theorem k140_54 : lkc 54 (kcode 140) = some (.iload_n 3) := by decide +kernel
theorem k140_55 : lkc 55 (kcode 140) = some (.iconst (-1)) := by decide +kernel
theorem k140_56 : lkc 56 (kcode 140) = some (.ixor) := by decide +kernel
theorem k140_57 : lkc 57 (kcode 140) = some (.iand) := by decide +kernel
theorem k140_58 : lkc 58 (kcode 140) = some (.ifCond .ne 45) := by decide +kernel
theorem k140_61 : lkc 61 (kcode 140) = some (.iload 6) := by decide +kernel
theorem k140_63 : lkc 63 (kcode 140) = some (.invokestatic 176) := by decide +kernel
theorem k140_66 : lkc 66 (kcode 140) = some (.iload 5) := by decide +kernel
theorem k140_68 : lkc 68 (kcode 140) = some (.if_icmp .ge 35) := by decide +kernel
theorem k140_71 : lkc 71 (kcode 140) = some (.aload_n 0) := by decide +kernel
theorem k140_72 : lkc 72 (kcode 140) = some (.getfield 19) := by decide +kernel
theorem k140_75 : lkc 75 (kcode 140) = some (.iload_n 1) := by decide +kernel
theorem k140_76 : lkc 76 (kcode 140) = some (.iload_n 3) := by decide +kernel
theorem k140_77 : lkc 77 (kcode 140) = some (.iload 6) := by decide +kernel
theorem k140_79 : lkc 79 (kcode 140) = some (.iconst (-1)) := by decide +kernel
theorem k140_80 : lkc 80 (kcode 140) = some (.ixor) := by decide +kernel
theorem k140_81 : lkc 81 (kcode 140) = some (.iand) := by decide +kernel
theorem k140_82 : lkc 82 (kcode 140) = some (.invokevirtual 322) := by decide +kernel
theorem k140_85 : lkc 85 (kcode 140) = some (.iload_n 2) := by decide +kernel
theorem k140_86 : lkc 86 (kcode 140) = some (.ishr) := by decide +kernel
theorem k140_87 : lkc 87 (kcode 140) = some (.iconst 1) := by decide +kernel
theorem k140_88 : lkc 88 (kcode 140) = some (.iand) := by decide +kernel
theorem k140_89 : lkc 89 (kcode 140) = some (.ifCond .ne 14) := by decide +kernel
theorem k140_92 : lkc 92 (kcode 140) = some (.iload 6) := by decide +kernel
theorem k140_94 : lkc 94 (kcode 140) = some (.istore 4) := by decide +kernel
theorem k140_96 : lkc 96 (kcode 140) = some (.iload 6) := by decide +kernel
theorem k140_98 : lkc 98 (kcode 140) = some (.invokestatic 176) := by decide +kernel
theorem k140_101 : lkc 101 (kcode 140) = some (.istore 5) := by decide +kernel
theorem k140_103 : lkc 103 (kcode 140) = some (.iinc 6 1) := by decide +kernel
theorem k140_106 : lkc 106 (kcode 140) = some (.goto (-68)) := by decide +kernel
theorem k140_109 : lkc 109 (kcode 140) = some (.iload 4) := by decide +kernel
theorem k140_111 : lkc 111 (kcode 140) = some (.ireturn) := by decide +kernel
theorem k241_0 : lkc 0 (kcode 241) = some (.aload_n 0) := by decide +kernel
theorem k241_1 : lkc 1 (kcode 241) = some (.iconst 0) := by decide +kernel
theorem k241_2 : lkc 2 (kcode 241) = some (.putfield 90) := by decide +kernel
theorem k241_5 : lkc 5 (kcode 241) = some (.aload_n 0) := by decide +kernel
theorem k241_6 : lkc 6 (kcode 241) = some (.iload_n 1) := by decide +kernel
theorem k241_7 : lkc 7 (kcode 241) = some (.invokevirtual 354) := by decide +kernel
theorem k241_10 : lkc 10 (kcode 241) = some (.ifCond .eq 16) := by decide +kernel
theorem k241_13 : lkc 13 (kcode 241) = some (.aload_n 0) := by decide +kernel
theorem k241_14 : lkc 14 (kcode 241) = some (.iload_n 2) := by decide +kernel
theorem k241_15 : lkc 15 (kcode 241) = some (.invokevirtual 354) := by decide +kernel
theorem k241_18 : lkc 18 (kcode 241) = some (.ifCond .eq 8) := by decide +kernel
theorem k241_21 : lkc 21 (kcode 241) = some (.iload_n 1) := by decide +kernel
theorem k241_22 : lkc 22 (kcode 241) = some (.iload_n 2) := by decide +kernel
theorem k241_23 : lkc 23 (kcode 241) = some (.if_icmp .ne 5) := by decide +kernel
theorem k241_26 : lkc 26 (kcode 241) = some (.iconst (-1)) := by decide +kernel
theorem k241_27 : lkc 27 (kcode 241) = some (.ireturn) := by decide +kernel
theorem k241_28 : lkc 28 (kcode 241) = some (.iconst (-1)) := by decide +kernel
theorem k241_29 : lkc 29 (kcode 241) = some (.istore_n 3) := by decide +kernel
theorem k241_30 : lkc 30 (kcode 241) = some (.iconst 0) := by decide +kernel
theorem k241_31 : lkc 31 (kcode 241) = some (.istore 4) := by decide +kernel
theorem k241_33 : lkc 33 (kcode 241) = some (.iload 4) := by decide +kernel
theorem k241_35 : lkc 35 (kcode 241) = some (.iconst 1) := by decide +kernel
theorem k241_36 : lkc 36 (kcode 241) = some (.aload_n 0) := by decide +kernel
theorem k241_37 : lkc 37 (kcode 241) = some (.getfield 283) := by decide +kernel
theorem k241_40 : lkc 40 (kcode 241) = some (.ishl) := by decide +kernel
theorem k241_41 : lkc 41 (kcode 241) = some (.if_icmp .ge 67) := by decide +kernel
theorem k241_44 : lkc 44 (kcode 241) = some (.iload 4) := by decide +kernel
theorem k241_46 : lkc 46 (kcode 241) = some (.aload_n 0) := by decide +kernel
theorem k241_47 : lkc 47 (kcode 241) = some (.getfield 58) := by decide +kernel
theorem k241_50 : lkc 50 (kcode 241) = some (.bipush 24) := by decide +kernel
theorem k241_52 : lkc 52 (kcode 241) = some (.iaload) := by decide +kernel
theorem k241_53 : lkc 53 (kcode 241) = some (.iand) := by decide +kernel
theorem k241_54 : lkc 54 (kcode 241) = some (.ifCond .ne 48) := by decide +kernel
theorem k241_57 : lkc 57 (kcode 241) = some (.iload_n 3) := by decide +kernel
theorem k241_58 : lkc 58 (kcode 241) = some (.iconst (-1)) := by decide +kernel
theorem k241_59 : lkc 59 (kcode 241) = some (.if_icmp .eq 18) := by decide +kernel
theorem k241_62 : lkc 62 (kcode 241) = some (.iload 4) := by decide +kernel
theorem k241_64 : lkc 64 (kcode 241) = some (.invokestatic 326) := by decide +kernel
theorem k241_67 : lkc 67 (kcode 241) = some (.iload_n 3) := by decide +kernel
theorem k241_68 : lkc 68 (kcode 241) = some (.invokestatic 326) := by decide +kernel
theorem k241_71 : lkc 71 (kcode 241) = some (.if_icmp .lt 6) := by decide +kernel
theorem k241_74 : lkc 74 (kcode 241) = some (.goto 28) := by decide +kernel
theorem k241_77 : lkc 77 (kcode 241) = some (.aload_n 0) := by decide +kernel
theorem k241_78 : lkc 78 (kcode 241) = some (.aload_n 0) := by decide +kernel
theorem k241_79 : lkc 79 (kcode 241) = some (.getfield 58) := by decide +kernel
theorem k241_82 : lkc 82 (kcode 241) = some (.bipush 24) := by decide +kernel
theorem k241_84 : lkc 84 (kcode 241) = some (.iaload) := by decide +kernel
theorem k241_85 : lkc 85 (kcode 241) = some (.iload 4) := by decide +kernel
theorem k241_87 : lkc 87 (kcode 241) = some (.ior) := by decide +kernel
theorem k241_88 : lkc 88 (kcode 241) = some (.iload_n 1) := by decide +kernel
theorem k241_89 : lkc 89 (kcode 241) = some (.invokevirtual 444) := by decide +kernel
theorem k241_92 : lkc 92 (kcode 241) = some (.iload_n 2) := by decide +kernel
theorem k241_93 : lkc 93 (kcode 241) = some (.invokestatic 223) := by decide +kernel
theorem k241_96 : lkc 96 (kcode 241) = some (.ifCond .ne 6) := by decide +kernel
theorem k241_99 : lkc 99 (kcode 241) = some (.iload 4) := by decide +kernel
theorem k241_101 : lkc 101 (kcode 241) = some (.istore_n 3) := by decide +kernel
theorem k241_102 : lkc 102 (kcode 241) = some (.iinc 4 1) := by decide +kernel
theorem k241_105 : lkc 105 (kcode 241) = some (.goto (-72)) := by decide +kernel
theorem k241_108 : lkc 108 (kcode 241) = some (.iload_n 3) := by decide +kernel
theorem k241_109 : lkc 109 (kcode 241) = some (.ireturn) := by decide +kernel
/-! forward: the fewest walls that part two, both sides -/
def paQ (S w : Nat) (A B : Nat → Nat) (a b e : Nat) : Bool := decide (e &&& w = 0) && !((rcF A B S (w ||| e) a).testBit b)
theorem paQ_t {S w : Nat} {A B : Nat → Nat} {a b e : Nat} : paQ S w A B a b e = true ↔ (e &&& w = 0 ∧ (rcF A B S (w ||| e) a).testBit b = false) := by
  unfold paQ
  rw [Bool.and_eq_true, decide_eq_true_iff, Bool.not_eq_true']
def paV (C S : Nat) (q : Nat → Nat → Nat → Bool) (z y v : Int32) : Prop := (∃ a b, a < C ∧ b < C ∧ a ≠ b ∧ z = nI a ∧ y = nI b ∧ v = opI (wlN (q a b) (2 ^ S))) ∨ (¬ (∃ a b, a < C ∧ b < C ∧ a ≠ b ∧ z = nI a ∧ y = nI b) ∧ v = -1)
theorem paV_1 {C S : Nat} {q : Nat → Nat → Nat → Bool} {z y v u : Int32} (hC : C ≤ 8) (h : paV C S q z y v) (g : paV C S q z y u) : v = u := by
  rcases h with ⟨a, b, h1, h2, h3, h4, h5, h6⟩ | ⟨h1, h2⟩
  · rcases g with ⟨a', b', g1, g2, g3, g4, g5, g6⟩ | ⟨g1, g2⟩
    · have ea : a = a' := (nI_inj (by omega) (by omega)).mp (h4.symm.trans g4)
      have eb : b = b' := (nI_inj (by omega) (by omega)).mp (h5.symm.trans g5)
      subst ea eb
      exact h6.trans g6.symm
    · exact absurd ⟨a, b, h1, h2, h3, h4, h5⟩ g1
  · rcases g with ⟨a', b', g1, g2, g3, g4, g5, g6⟩ | ⟨g1, g2⟩
    · exact absurd ⟨a', b', g1, g2, g3, g4, g5⟩ h1
    · exact h2.trans g2.symm
theorem rcF_lt {A B : Nat → Nat} {C S w c : Nat} (hS : ∀ s, s < S → A s < C ∧ B s < C) (hC : C ≤ 8) (hc : c < C) : rcF A B S w c < 256 := Nat.lt_of_lt_of_le (swp_it hS hc 8) (p2_8 hC)
theorem c_parted {m : xM} {C S w : Nat} {A B Y : Nat → Nat} {z y : Int32} (hr : rS m) (hT : xT m C S A B Y) (hw : m.1 89 0 = nI w) (hw2 : w < 65536) : fC 140 [.ref 0, .int z, .int y] m (fun rv m' => ∃ v, rv = some (.int v) ∧ paV C S (paQ S w A B) z y v) := by
  refine fC_of (by decide) (fun d n P H => ?_)
  have hC8 : C ≤ 8 := hT.2.2.1
  have hS12 : S ≤ 12 := hT.2.2.2.1
  have hab := xT_ab hT
  have pS : (2 : Nat) ^ S ≤ 2 ^ 12 := Nat.pow_le_pow_right (by omega) hS12
  rw [show (2 : Nat) ^ 12 = 4096 from rfl] at pS
  have neg : ∀ n, ¬ (∃ a b, a < C ∧ b < C ∧ a ≠ b ∧ z = nI a ∧ y = nI b) → xF 140 (xw d) P n 21 [(0, .ref 0), (1, .int z), (2, .int y)] [] m → ∃ rv m', P rv m' ∧ ∃ v, rv = some (.int v) ∧ paV C S (paQ S w A B) z y v := by
    intro n hn H
    replace H := f_iconst H k140_21 (v := -1) (by decide)
    replace H := f_iret H k140_22
    exact ⟨_, _, H, _, rfl, Or.inr ⟨hn, rfl⟩⟩
  replace H := f_aload_n H k140_0 rfl
  replace H := f_iload_n H k140_1 rfl
  obtain ⟨rv, m3, ⟨ho1, e3⟩, h9_2⟩ := f_inv H k140_2 (by decide +kernel) (as := [.int _]) (b := 0) (r := []) (by rfl) (c_isCornerN hr hT.1 (by omega))
  replace H := h9_2
  rw [← e3] at H
  clear e3
  rcases ho1 with ⟨a, ha, hza, rfl⟩ | ⟨h0, rfl⟩
  · subst hza
    replace H := f_if_eq_f H k140_5 (by decide)
    replace H := f_aload_n H k140_8 rfl
    replace H := f_iload_n H k140_9 rfl
    obtain ⟨rv, m4, ⟨ho2, e3⟩, h9_10⟩ := f_inv H k140_10 (by decide +kernel) (as := [.int _]) (b := 0) (r := []) (by rfl) (c_isCornerN hr hT.1 (by omega))
    replace H := h9_10
    rw [← e3] at H
    clear e3
    rcases ho2 with ⟨b, hb, hyb, rfl⟩ | ⟨h1, rfl⟩
    · subst hyb
      replace H := f_if_eq_f H k140_13 (by decide)
      replace H := f_iload_n H k140_16 rfl
      replace H := f_iload_n H k140_17 rfl
      have Hbr := f_icmp_ne H k140_18 (t := 23) (by decide)
      clear H
      rcases Hbr with ⟨c1, H⟩ | ⟨c1, H⟩
      · rw [nI_inj (by omega) (by omega)] at c1
        replace H := f_aload_n H k140_23 rfl
        obtain ⟨rv, m5, ⟨rfl, e3⟩, h9_24⟩ := f_inv H k140_24 (by decide +kernel) (as := []) (b := 0) (r := []) (by rfl) (c_openNow hr hT hw)
        replace H := h9_24
        rw [← e3] at H
        clear e3
        obtain ⟨q, hq⟩ : ∃ q, q = paQ S w A B a b := ⟨_, rfl⟩
        have lp : ∀ n e, e ≤ 2 ^ S → xF 140 (xw d) P n 38 [(6, .int (nI e)), (5, .int (nI (few (wlN q e)))), (4, .int (opI (wlN q e))), (3, .int (nI (opb S w))), (0, .ref 0), (1, .int (nI a)), (2, .int (nI b))] [] m → ∃ rv m', P rv m' ∧ ∃ v, rv = some (.int v) ∧ paV C S (paQ S w A B) (nI a) (nI b) v := by
          intro n
          induction n with
          | zero => exact fun e _ H => (xF_0 H).elim
          | succ n ih =>
            intro e he H
            have f13 := few_le (o := wlN q e)
            have pc12 := pcv_le e 12
            have no : ¬ (q e = true ∧ pcv e 12 < few (wlN q e)) → e < 2 ^ S → xF 140 (xw d) P n 103 [(6, .int (nI e)), (5, .int (nI (few (wlN q e)))), (4, .int (opI (wlN q e))), (3, .int (nI (opb S w))), (0, .ref 0), (1, .int (nI a)), (2, .int (nI b))] [] m → ∃ rv m', P rv m' ∧ ∃ v, rv = some (.int v) ∧ paV C S (paQ S w A B) (nI a) (nI b) v := by
              intro h9 he2 H
              replace H := f_iinc H k140_103 rfl (l2 := [(6, .int (nI e + 1)), (5, .int (nI (few (wlN q e)))), (4, .int (opI (wlN q e))), (3, .int (nI (opb S w))), (0, .ref 0), (1, .int (nI a)), (2, .int (nI b))]) rfl
              replace H := f_goto H k140_106 (t := 38) (by decide)
              rw [nI_s, ← wlN_f h9] at H
              exact ih (e + 1) (by omega) H
            replace H := f1_iload H k140_38 rfl
            replace H := f_iconst H k140_40 (v := 1) (by decide)
            replace H := f_aload_n H k140_41 rfl
            replace H := f_gr H k140_42 (ci := 11) (f := 1) (x := 3) (by decide +kernel) (by decide) (hr 0 1 3 rfl)
            replace H := f_gi H k140_45 (ci := 5) (f := 1) (by decide +kernel) (by decide)
            replace H := f_ishl H k140_48
            rw [hT.2.1, shl_n (by omega)] at H
            have Hbr := f_icmp_ge H k140_49 (t := 109) (by decide)
            clear H
            rcases Hbr with ⟨c0, H⟩ | ⟨c0, H⟩
            · rw [nxle (by omega) (by omega)] at c0
              have ee : e = 2 ^ S := by omega
              replace H := f_iload H k140_109 rfl
              replace H := f_iret H k140_111
              refine ⟨_, _, H, _, rfl, Or.inl ⟨a, b, ha, hb, c1, rfl, rfl, ?_⟩⟩
              rw [ee, hq]
            · rw [nxle (by omega) (by omega)] at c0
              have he2 : e < 2 ^ S := by omega
              have hrl := rcF_lt (w := w ||| e) hab hC8 ha
              replace H := f_iload H k140_52 rfl
              replace H := f_iload_n H k140_54 rfl
              replace H := f_iconst H k140_55 (v := -1) (by decide)
              replace H := f_ixor H k140_56
              replace H := f_iand H k140_57
              rw [wl_a hS12 he2] at H
              have Hbr := f_if_ne H k140_58 (t := 103) (by decide)
              clear H
              rcases Hbr with ⟨c3, H⟩ | ⟨c3, H⟩
              · exact no (fun h => c3 (by rw [hq] at h; exact congrArg nI (paQ_t.mp h.1).1)) he2 H
              · have hew : e &&& w < 4096 := Nat.lt_of_le_of_lt Nat.and_le_left (Nat.lt_of_lt_of_le he2 pS)
                rw [show (0 : Int32) = nI 0 from rfl, nI_inj (by omega) (by omega)] at c3
                replace H := f_iload H k140_61 rfl
                obtain ⟨rv, m6, ⟨rfl, e3⟩, h9_63⟩ := f_ins H k140_63 (by decide +kernel) (as := [.int _]) (r := []) (by rfl) (c_bitCount (v := e) (by omega))
                replace H := h9_63
                rw [← e3] at H
                clear e3
                replace H := f_iload H k140_66 rfl
                have Hbr := f_icmp_ge H k140_68 (t := 103) (by decide)
                clear H
                rcases Hbr with ⟨c4, H⟩ | ⟨c4, H⟩
                · rw [nxle (by omega) (by omega)] at c4
                  exact no (fun h => by omega) he2 H
                · rw [nxle (by omega) (by omega)] at c4
                  replace H := f_aload_n H k140_71 rfl
                  replace H := f_gr H k140_72 (ci := 11) (f := 1) (x := 3) (by decide +kernel) (by decide) (hr 0 1 3 rfl)
                  replace H := f_iload_n H k140_75 rfl
                  replace H := f_iload_n H k140_76 rfl
                  replace H := f_iload H k140_77 rfl
                  replace H := f_iconst H k140_79 (v := -1) (by decide)
                  replace H := f_ixor H k140_80
                  replace H := f_iand H k140_81
                  rw [wl_o] at H
                  obtain ⟨rv, m7, ⟨rfl, e3⟩, h9_82⟩ := f_inv H k140_82 (by decide +kernel) (as := [.int _, .int _]) (b := 3) (r := []) (by rfl) (c_reachedFrom hr hT (opb_o2 (w := w) (e := e)) (opb_65 hS12) ha)
                  replace H := h9_82
                  rw [← e3] at H
                  clear e3
                  replace H := f_iload_n H k140_85 rfl
                  replace H := f_ishr H k140_86
                  replace H := f_iconst H k140_87 (v := 1) (by decide)
                  replace H := f_iand H k140_88
                  rw [has_n (by omega) (by omega)] at H
                  cases hbt : (rcF A B S (w ||| e) a).testBit b with
                  | true =>
                    rw [hbt] at H
                    replace H := f_if_ne_t H k140_89 (by decide) (t := 103) (by decide)
                    exact no (fun h => by rw [hq] at h; have := (paQ_t.mp h.1).2; rw [hbt] at this; cases this) he2 H
                  | false =>
                    rw [hbt] at H
                    have h9 : q e = true := by rw [hq]; exact paQ_t.mpr ⟨c3, hbt⟩
                    have h8 : wlN q (e + 1) = some e := wlN_t h9 (by omega)
                    replace H := f_if_ne_f H k140_89 rfl
                    replace H := f_iload H k140_92 rfl
                    replace H := f_istore H k140_94 (l2 := [(4, .int (nI e)), (6, .int (nI e)), (5, .int (nI (few (wlN q e)))), (3, .int (nI (opb S w))), (0, .ref 0), (1, .int (nI a)), (2, .int (nI b))]) rfl
                    replace H := f_iload H k140_96 rfl
                    obtain ⟨rv, m8, ⟨rfl, e3⟩, h9_98⟩ := f_ins H k140_98 (by decide +kernel) (as := [.int _]) (r := []) (by rfl) (c_bitCount (v := e) (by omega))
                    replace H := h9_98
                    rw [← e3] at H
                    clear e3
                    replace H := f_istore H k140_101 (l2 := [(5, .int _), (4, .int (nI e)), (6, .int (nI e)), (3, .int (nI (opb S w))), (0, .ref 0), (1, .int (nI a)), (2, .int (nI b))]) rfl
                    replace H := f_iinc H k140_103 rfl (l2 := [(6, .int (nI e + 1)), (5, .int _), (4, .int (nI e)), (3, .int (nI (opb S w))), (0, .ref 0), (1, .int (nI a)), (2, .int (nI b))]) rfl
                    replace H := f_goto H k140_106 (t := 38) (by decide)
                    rw [nI_s] at H
                    refine ih (e + 1) (by omega) ?_
                    rw [h8]
                    exact H
        replace H := f_istore_n H k140_27 (l2 := [(3, .int _), (0, .ref 0), (1, .int (nI a)), (2, .int (nI b))]) rfl
        replace H := f_iconst H k140_28 (v := -1) (by decide)
        replace H := f_istore H k140_29 (l2 := [(4, .int (-1)), (3, .int _), (0, .ref 0), (1, .int (nI a)), (2, .int (nI b))]) rfl
        replace H := f_bipush H k140_31 (v := 13) (by decide)
        replace H := f_istore H k140_33 (l2 := [(5, .int 13), (4, .int (-1)), (3, .int _), (0, .ref 0), (1, .int (nI a)), (2, .int (nI b))]) rfl
        replace H := f_iconst H k140_35 (v := 0) (by decide)
        replace H := f_istore H k140_36 (l2 := [(6, .int 0), (5, .int 13), (4, .int (-1)), (3, .int _), (0, .ref 0), (1, .int (nI a)), (2, .int (nI b))]) rfl
        exact lp _ 0 (Nat.zero_le _) H
      · rw [nI_inj (by omega) (by omega)] at c1
        exact neg _ (fun ⟨a', b', g1, g2, g3, g4, g5⟩ => by
          have ea : a = a' := (nI_inj (by omega) (by omega)).mp g4
          have eb : b = b' := (nI_inj (by omega) (by omega)).mp g5
          omega) H
    · replace H := f_if_eq_t H k140_13 rfl (t := 21) (by decide)
      exact neg _ (fun ⟨a', b', g1, g2, g3, g4, g5⟩ => h1 b' g2 g5) H
  · replace H := f_if_eq_t H k140_5 rfl (t := 21) (by decide)
    exact neg _ (fun ⟨a', b', g1, g2, g3, g4, g5⟩ => h0 a' g1 g4) H
theorem c_mparted {m : xM} {C S w : Nat} {A B Y : Nat → Nat} {z y : Int32} (hr : rS m) (hT : mT m C S A B Y) (hw : m.1 326 24 = nI w) (hw2 : w < 65536) : fC 241 [.ref 314, .int z, .int y] m (fun rv m' => ∃ v, rv = some (.int v) ∧ paV C S (paQ S w A B) z y v) := by
  refine fC_of (by decide) (fun d n P H => ?_)
  have c24 : (24 : Int32).toNatClampNeg = 24 := by decide
  replace H := f_aload_n H k241_0 rfl
  replace H := f_iconst H k241_1 (v := 0) (by decide)
  replace H := f_put_i H k241_2 (ci := 12) (f := 0) (by decide +kernel) (by decide)
  have hr : rS (mI m 314 0 0) := hr
  have hT : mT (mI m 314 0 0) C S A B Y := mT_f hT (fun i => ⟨⟨mI_ne (by omega), mI_ne (by omega)⟩, mI_ne (by omega)⟩)
  have hw : (mI m 314 0 0).1 326 24 = nI w := by rw [mI_ne (by omega)]; exact hw
  generalize mI m 314 0 0 = m at *
  have hC8 : C ≤ 8 := hT.2.2.1
  have hS12 : S ≤ 12 := hT.2.2.2.1
  have hab := mT_ab hT
  have pS : (2 : Nat) ^ S ≤ 2 ^ 12 := Nat.pow_le_pow_right (by omega) hS12
  rw [show (2 : Nat) ^ 12 = 4096 from rfl] at pS
  have neg : ∀ n, ¬ (∃ a b, a < C ∧ b < C ∧ a ≠ b ∧ z = nI a ∧ y = nI b) → xF 241 (xw d) P n 26 [(0, .ref 314), (1, .int z), (2, .int y)] [] m → ∃ rv m', P rv m' ∧ ∃ v, rv = some (.int v) ∧ paV C S (paQ S w A B) z y v := by
    intro n hn H
    replace H := f_iconst H k241_26 (v := -1) (by decide)
    replace H := f_iret H k241_27
    exact ⟨_, _, H, _, rfl, Or.inr ⟨hn, rfl⟩⟩
  replace H := f_aload_n H k241_5 rfl
  replace H := f_iload_n H k241_6 rfl
  obtain ⟨rv, m3, ⟨ho1, e3⟩, h9_7⟩ := f_inv H k241_7 (by decide +kernel) (as := [.int _]) (b := 314) (r := []) (by rfl) (c_misCornerN hr hT.1 (by omega))
  replace H := h9_7
  rw [← e3] at H
  clear e3
  rcases ho1 with ⟨a, ha, hza, rfl⟩ | ⟨h0, rfl⟩
  · subst hza
    replace H := f_if_eq_f H k241_10 (by decide)
    replace H := f_aload_n H k241_13 rfl
    replace H := f_iload_n H k241_14 rfl
    obtain ⟨rv, m4, ⟨ho2, e3⟩, h9_15⟩ := f_inv H k241_15 (by decide +kernel) (as := [.int _]) (b := 314) (r := []) (by rfl) (c_misCornerN hr hT.1 (by omega))
    replace H := h9_15
    rw [← e3] at H
    clear e3
    rcases ho2 with ⟨b, hb, hyb, rfl⟩ | ⟨h1, rfl⟩
    · subst hyb
      replace H := f_if_eq_f H k241_18 (by decide)
      replace H := f_iload_n H k241_21 rfl
      replace H := f_iload_n H k241_22 rfl
      have Hbr := f_icmp_ne H k241_23 (t := 28) (by decide)
      clear H
      rcases Hbr with ⟨c1, H⟩ | ⟨c1, H⟩
      · rw [nI_inj (by omega) (by omega)] at c1
        obtain ⟨q, hq⟩ : ∃ q, q = paQ S w A B a b := ⟨_, rfl⟩
        have lp : ∀ n e, e ≤ 2 ^ S → xF 241 (xw d) P n 33 [(4, .int (nI e)), (3, .int (opI (wlN q e))), (0, .ref 314), (1, .int (nI a)), (2, .int (nI b))] [] m → ∃ rv m', P rv m' ∧ ∃ v, rv = some (.int v) ∧ paV C S (paQ S w A B) (nI a) (nI b) v := by
          intro n
          induction n with
          | zero => exact fun e _ H => (xF_0 H).elim
          | succ n ih =>
            intro e he H
            have pc12 := pcv_le e 12
            have no : ¬ (q e = true ∧ pcv e 12 < few (wlN q e)) → e < 2 ^ S → xF 241 (xw d) P n 102 [(4, .int (nI e)), (3, .int (opI (wlN q e))), (0, .ref 314), (1, .int (nI a)), (2, .int (nI b))] [] m → ∃ rv m', P rv m' ∧ ∃ v, rv = some (.int v) ∧ paV C S (paQ S w A B) (nI a) (nI b) v := by
              intro h9 he2 H
              replace H := f_iinc H k241_102 rfl (l2 := [(4, .int (nI e + 1)), (3, .int (opI (wlN q e))), (0, .ref 314), (1, .int (nI a)), (2, .int (nI b))]) rfl
              replace H := f_goto H k241_105 (t := 33) (by decide)
              rw [nI_s, ← wlN_f h9] at H
              exact ih (e + 1) (by omega) H
            replace H := f1_iload H k241_33 rfl
            replace H := f_iconst H k241_35 (v := 1) (by decide)
            replace H := f_aload_n H k241_36 rfl
            replace H := f_gi H k241_37 (ci := 12) (f := 26) (by decide +kernel) (by decide)
            replace H := f_ishl H k241_40
            rw [hT.2.1, shl_n (by omega)] at H
            have Hbr := f_icmp_ge H k241_41 (t := 108) (by decide)
            clear H
            rcases Hbr with ⟨c0, H⟩ | ⟨c0, H⟩
            · rw [nxle (by omega) (by omega)] at c0
              have ee : e = 2 ^ S := by omega
              replace H := f_iload_n H k241_108 rfl
              replace H := f_iret H k241_109
              refine ⟨_, _, H, _, rfl, Or.inl ⟨a, b, ha, hb, c1, rfl, rfl, ?_⟩⟩
              rw [ee, hq]
            · rw [nxle (by omega) (by omega)] at c0
              have he2 : e < 2 ^ S := by omega
              have hrl := rcF_lt (w := w ||| e) hab hC8 ha
              replace H := f_iload H k241_44 rfl
              replace H := f_aload_n H k241_46 rfl
              replace H := f_gr H k241_47 (ci := 12) (f := 32) (x := 326) (by decide +kernel) (by decide) (hr 314 32 326 rfl)
              replace H := f_bipush H k241_50 (v := 24) (by decide)
              have Hob := f_iald H k241_52 (c := 208) (by decide)
              clear H
              obtain ⟨hb52, H⟩ := Hob
              replace H := f_iand H k241_53
              rw [c24, hw, fa_and] at H
              have Hbr := f_if_ne H k241_54 (t := 102) (by decide)
              clear H
              rcases Hbr with ⟨c3, H⟩ | ⟨c3, H⟩
              · exact no (fun h => c3 (by rw [hq] at h; exact congrArg nI (paQ_t.mp h.1).1)) he2 H
              · have hew : e &&& w < 4096 := Nat.lt_of_le_of_lt Nat.and_le_left (Nat.lt_of_lt_of_le he2 pS)
                rw [show (0 : Int32) = nI 0 from rfl, nI_inj (by omega) (by omega)] at c3
                have go : pcv e 12 < few (wlN q e) → xF 241 (xw d) P n 77 [(4, .int (nI e)), (3, .int (opI (wlN q e))), (0, .ref 314), (1, .int (nI a)), (2, .int (nI b))] [] m → ∃ rv m', P rv m' ∧ ∃ v, rv = some (.int v) ∧ paV C S (paQ S w A B) (nI a) (nI b) v := by
                  intro hfe H
                  replace H := f_aload_n H k241_77 rfl
                  replace H := f_aload_n H k241_78 rfl
                  replace H := f_gr H k241_79 (ci := 12) (f := 32) (x := 326) (by decide +kernel) (by decide) (hr 314 32 326 rfl)
                  replace H := f_bipush H k241_82 (v := 24) (by decide)
                  have Hob := f_iald H k241_84 (c := 208) (by decide)
                  clear H
                  obtain ⟨hb84, H⟩ := Hob
                  replace H := f_iload H k241_85 rfl
                  replace H := f_ior H k241_87
                  replace H := f_iload_n H k241_88 rfl
                  rw [c24, hw, fa_or] at H
                  obtain ⟨rv, m7, ⟨rfl, e3⟩, h9_89⟩ := f_inv H k241_89 (by decide +kernel) (as := [.int _, .int _]) (b := 314) (r := []) (by rfl) (c_mreached hr hT (or_65 hw2 (by omega)) ha)
                  replace H := h9_89
                  rw [← e3] at H
                  clear e3
                  replace H := f_iload_n H k241_92 rfl
                  have hrb : rcF A B S (w ||| e) a < 2147483648 := by omega
                  obtain ⟨rv, m8, ⟨rfl, e3⟩, h9_93⟩ := f_ins H k241_93 (by decide +kernel) (as := [.int _, .int _]) (r := []) (by rfl) (c_hasN (j := b) hrb (by omega))
                  replace H := h9_93
                  rw [← e3] at H
                  clear e3
                  cases hbt : (rcF A B S (w ||| e) a).testBit b with
                  | true =>
                    rw [hbt] at H
                    replace H := f_if_ne_t H k241_96 (by decide) (t := 102) (by decide)
                    exact no (fun h => by rw [hq] at h; have := (paQ_t.mp h.1).2; rw [hbt] at this; cases this) he2 H
                  | false =>
                    rw [hbt] at H
                    have h9 : q e = true := by rw [hq]; exact paQ_t.mpr ⟨c3, hbt⟩
                    have h8 : wlN q (e + 1) = some e := wlN_t h9 hfe
                    replace H := f_if_ne_f H k241_96 rfl
                    replace H := f_iload H k241_99 rfl
                    replace H := f_istore_n H k241_101 (l2 := [(3, .int (nI e)), (4, .int (nI e)), (0, .ref 314), (1, .int (nI a)), (2, .int (nI b))]) rfl
                    replace H := f_iinc H k241_102 rfl (l2 := [(4, .int (nI e + 1)), (3, .int (nI e)), (0, .ref 314), (1, .int (nI a)), (2, .int (nI b))]) rfl
                    replace H := f_goto H k241_105 (t := 33) (by decide)
                    rw [nI_s] at H
                    refine ih (e + 1) (by omega) ?_
                    rw [h8]
                    exact H
                replace H := f_iload_n H k241_57 rfl
                replace H := f_iconst H k241_58 (v := -1) (by decide)
                cases hbo : wlN q e with
                | none =>
                  replace H := f_icmp_eq_t H k241_59 (by rw [hbo]; rfl) (t := 77) (by decide)
                  exact go (by rw [hbo]; show pcv e 12 < 13; omega) H
                | some b2 =>
                  have hbe := wlN_lt e b2 hbo
                  rw [show opI (wlN q e) = nI b2 by rw [hbo]; rfl] at H
                  replace H := f_icmp_eq_f H k241_59 (nI_ne1 (by omega))
                  replace H := f_iload H k241_62 rfl
                  obtain ⟨rv, m6, ⟨rfl, e3⟩, h9_64⟩ := f_ins H k241_64 (by decide +kernel) (as := [.int _]) (r := []) (by rfl) (c_bitCount (v := e) (by omega))
                  replace H := h9_64
                  rw [← e3] at H
                  clear e3
                  replace H := f_iload_n H k241_67 rfl
                  obtain ⟨rv, m6, ⟨rfl, e3⟩, h9_68⟩ := f_ins H k241_68 (by decide +kernel) (as := [.int _]) (r := [.int _]) (by rfl) (c_bitCount (v := b2) (by omega))
                  replace H := h9_68
                  rw [← e3] at H
                  clear e3
                  have pb12 := pcv_le b2 12
                  have hfb : few (wlN q e) = pcv b2 12 := by rw [hbo]; rfl
                  have hob : opI (wlN q e) = nI b2 := by rw [hbo]; rfl
                  have Hbr := f_icmp_lt H k241_71 (t := 77) (by decide)
                  clear H
                  rcases Hbr with ⟨c6, H⟩ | ⟨c6, H⟩
                  · rw [nxlt (by omega) (by omega)] at c6
                    replace H : xF 241 (xw d) P n 77 [(4, .int (nI e)), (3, .int (opI (wlN q e))), (0, .ref 314), (1, .int (nI a)), (2, .int (nI b))] [] m := by rw [hob]; exact H
                    exact go (by omega) H
                  · rw [nxlt (by omega) (by omega)] at c6
                    replace H := f_goto H k241_74 (t := 102) (by decide)
                    replace H : xF 241 (xw d) P n 102 [(4, .int (nI e)), (3, .int (opI (wlN q e))), (0, .ref 314), (1, .int (nI a)), (2, .int (nI b))] [] m := by rw [hob]; exact H
                    exact no (fun h => by omega) he2 H
        replace H := f_iconst H k241_28 (v := -1) (by decide)
        replace H := f_istore_n H k241_29 (l2 := [(3, .int (-1)), (0, .ref 314), (1, .int (nI a)), (2, .int (nI b))]) rfl
        replace H := f_iconst H k241_30 (v := 0) (by decide)
        replace H := f_istore H k241_31 (l2 := [(4, .int 0), (3, .int (-1)), (0, .ref 314), (1, .int (nI a)), (2, .int (nI b))]) rfl
        exact lp _ 0 (Nat.zero_le _) H
      · rw [nI_inj (by omega) (by omega)] at c1
        exact neg _ (fun ⟨a', b', g1, g2, g3, g4, g5⟩ => by
          have ea : a = a' := (nI_inj (by omega) (by omega)).mp g4
          have eb : b = b' := (nI_inj (by omega) (by omega)).mp g5
          omega) H
    · replace H := f_if_eq_t H k241_18 rfl (t := 26) (by decide)
      exact neg _ (fun ⟨a', b', g1, g2, g3, g4, g5⟩ => h1 b' g2 g5) H
  · replace H := f_if_eq_t H k241_10 rfl (t := 26) (by decide)
    exact neg _ (fun ⟨a', b', g1, g2, g3, g4, g5⟩ => h0 a' g1 g4) H
