theorem k229_0 : lkc 0 (kcode 229) = some (.iload_n 2) := by decide +kernel
theorem k229_1 : lkc 1 (kcode 229) = some (.ifCond .ne 48) := by decide +kernel
theorem k229_4 : lkc 4 (kcode 229) = some (.aload_n 0) := by decide +kernel
theorem k229_5 : lkc 5 (kcode 229) = some (.getfield 416) := by decide +kernel
theorem k229_8 : lkc 8 (kcode 229) = some (.iconst (-1)) := by decide +kernel
theorem k229_9 : lkc 9 (kcode 229) = some (.if_icmp .eq 28) := by decide +kernel
theorem k229_12 : lkc 12 (kcode 229) = some (.iload_n 3) := by decide +kernel
theorem k229_13 : lkc 13 (kcode 229) = some (.aload_n 0) := by decide +kernel
theorem k229_14 : lkc 14 (kcode 229) = some (.getfield 416) := by decide +kernel
theorem k229_17 : lkc 17 (kcode 229) = some (.if_icmp .lt 20) := by decide +kernel
theorem k229_20 : lkc 20 (kcode 229) = some (.iload_n 3) := by decide +kernel
theorem k229_21 : lkc 21 (kcode 229) = some (.aload_n 0) := by decide +kernel
theorem k229_22 : lkc 22 (kcode 229) = some (.getfield 416) := by decide +kernel
theorem k229_25 : lkc 25 (kcode 229) = some (.if_icmp .ne 23) := by decide +kernel
theorem k229_28 : lkc 28 (kcode 229) = some (.iload 4) := by decide +kernel
theorem k229_30 : lkc 30 (kcode 229) = some (.aload_n 0) := by decide +kernel
theorem k229_31 : lkc 31 (kcode 229) = some (.getfield 419) := by decide +kernel
theorem k229_34 : lkc 34 (kcode 229) = some (.if_icmp .ge 14) := by decide +kernel
theorem k229_37 : lkc 37 (kcode 229) = some (.aload_n 0) := by decide +kernel
theorem k229_38 : lkc 38 (kcode 229) = some (.iload_n 3) := by decide +kernel
theorem k229_39 : lkc 39 (kcode 229) = some (.putfield 416) := by decide +kernel
theorem k229_42 : lkc 42 (kcode 229) = some (.aload_n 0) := by decide +kernel
theorem k229_43 : lkc 43 (kcode 229) = some (.iload 4) := by decide +kernel
theorem k229_45 : lkc 45 (kcode 229) = some (.putfield 419) := by decide +kernel
theorem k229_48 : lkc 48 (kcode 229) = some (.return_) := by decide +kernel
theorem k229_49 : lkc 49 (kcode 229) = some (.aload_n 0) := by decide +kernel
theorem k229_50 : lkc 50 (kcode 229) = some (.getfield 416) := by decide +kernel
theorem k229_53 : lkc 53 (kcode 229) = some (.iconst (-1)) := by decide +kernel
theorem k229_54 : lkc 54 (kcode 229) = some (.if_icmp .eq 12) := by decide +kernel
theorem k229_57 : lkc 57 (kcode 229) = some (.iload_n 3) := by decide +kernel
theorem k229_58 : lkc 58 (kcode 229) = some (.aload_n 0) := by decide +kernel
theorem k229_59 : lkc 59 (kcode 229) = some (.getfield 416) := by decide +kernel
theorem k229_62 : lkc 62 (kcode 229) = some (.if_icmp .le 4) := by decide +kernel
theorem k229_65 : lkc 65 (kcode 229) = some (.return_) := by decide +kernel
theorem k229_66 : lkc 66 (kcode 229) = some (.iconst 0) := by decide +kernel
theorem k229_67 : lkc 67 (kcode 229) = some (.istore 5) := by decide +kernel
theorem k229_69 : lkc 69 (kcode 229) = some (.iload 5) := by decide +kernel
theorem k229_71 : lkc 71 (kcode 229) = some (.aload_n 0) := by decide +kernel
theorem k229_72 : lkc 72 (kcode 229) = some (.getfield 280) := by decide +kernel
theorem k229_75 : lkc 75 (kcode 229) = some (.if_icmp .ge 70) := by decide +kernel
theorem k229_78 : lkc 78 (kcode 229) = some (.iload_n 2) := by decide +kernel
theorem k229_79 : lkc 79 (kcode 229) = some (.iload 5) := by decide +kernel
theorem k229_81 : lkc 81 (kcode 229) = some (.invokestatic 223) := by decide +kernel
theorem k229_84 : lkc 84 (kcode 229) = some (.ifCond .eq 55) := by decide +kernel
theorem k229_87 : lkc 87 (kcode 229) = some (.aload_n 0) := by decide +kernel
theorem k229_88 : lkc 88 (kcode 229) = some (.iload_n 1) := by decide +kernel
theorem k229_89 : lkc 89 (kcode 229) = some (.iload 5) := by decide +kernel
theorem k229_91 : lkc 91 (kcode 229) = some (.invokevirtual 322) := by decide +kernel
theorem k229_94 : lkc 94 (kcode 229) = some (.ifCond .eq 45) := by decide +kernel
theorem k229_97 : lkc 97 (kcode 229) = some (.aload_n 0) := by decide +kernel
theorem k229_98 : lkc 98 (kcode 229) = some (.iload 5) := by decide +kernel
theorem k229_100 : lkc 100 (kcode 229) = some (.iload_n 2) := by decide +kernel
theorem k229_101 : lkc 101 (kcode 229) = some (.iconst 1) := by decide +kernel
theorem k229_102 : lkc 102 (kcode 229) = some (.iload 5) := by decide +kernel
theorem k229_104 : lkc 104 (kcode 229) = some (.ishl) := by decide +kernel
theorem k229_105 : lkc 105 (kcode 229) = some (.iconst (-1)) := by decide +kernel
theorem k229_106 : lkc 106 (kcode 229) = some (.ixor) := by decide +kernel
theorem k229_107 : lkc 107 (kcode 229) = some (.iand) := by decide +kernel
theorem k229_108 : lkc 108 (kcode 229) = some (.iload_n 3) := by decide +kernel
theorem k229_109 : lkc 109 (kcode 229) = some (.aload_n 0) := by decide +kernel
theorem k229_110 : lkc 110 (kcode 229) = some (.iload_n 1) := by decide +kernel
theorem k229_111 : lkc 111 (kcode 229) = some (.iload 5) := by decide +kernel
theorem k229_113 : lkc 113 (kcode 229) = some (.invokevirtual 304) := by decide +kernel
theorem k229_116 : lkc 116 (kcode 229) = some (.iadd) := by decide +kernel
theorem k229_117 : lkc 117 (kcode 229) = some (.iload 4) := by decide +kernel
theorem k229_119 : lkc 119 (kcode 229) = some (.iconst (-1)) := by decide +kernel
theorem k229_120 : lkc 120 (kcode 229) = some (.if_icmp .ne 8) := by decide +kernel
theorem k229_123 : lkc 123 (kcode 229) = some (.iload 5) := by decide +kernel
theorem k229_125 : lkc 125 (kcode 229) = some (.goto 11) := by decide +kernel
theorem k229_128 : lkc 128 (kcode 229) = some (.bipush 10) := by decide +kernel
theorem k229_130 : lkc 130 (kcode 229) = some (.iload 4) := by decide +kernel
theorem k229_132 : lkc 132 (kcode 229) = some (.imul) := by decide +kernel
theorem k229_133 : lkc 133 (kcode 229) = some (.iload 5) := by decide +kernel
theorem k229_135 : lkc 135 (kcode 229) = some (.iadd) := by decide +kernel
theorem k229_136 : lkc 136 (kcode 229) = some (.invokevirtual 422) := by decide +kernel
theorem k229_139 : lkc 139 (kcode 229) = some (.iinc 5 1) := by decide +kernel
theorem k229_142 : lkc 142 (kcode 229) = some (.goto (-73)) := by decide +kernel
theorem k229_145 : lkc 145 (kcode 229) = some (.return_) := by decide +kernel
theorem k230_0 : lkc 0 (kcode 230) = some (.aload_n 0) := by decide +kernel
theorem k230_1 : lkc 1 (kcode 230) = some (.iconst 0) := by decide +kernel
theorem k230_2 : lkc 2 (kcode 230) = some (.putfield 90) := by decide +kernel
theorem k230_5 : lkc 5 (kcode 230) = some (.aload_n 0) := by decide +kernel
theorem k230_6 : lkc 6 (kcode 230) = some (.iload_n 1) := by decide +kernel
theorem k230_7 : lkc 7 (kcode 230) = some (.invokevirtual 354) := by decide +kernel
theorem k230_10 : lkc 10 (kcode 230) = some (.ifCond .eq 13) := by decide +kernel
theorem k230_13 : lkc 13 (kcode 230) = some (.iload_n 2) := by decide +kernel
theorem k230_14 : lkc 14 (kcode 230) = some (.i2l) := by decide +kernel
theorem k230_15 : lkc 15 (kcode 230) = some (.lconst 0) := by decide +kernel
theorem k230_16 : lkc 16 (kcode 230) = some (.lconst 1) := by decide +kernel
theorem k230_17 : lkc 17 (kcode 230) = some (.invokestatic 211) := by decide +kernel
theorem k230_20 : lkc 20 (kcode 230) = some (.ifCond .ne 5) := by decide +kernel
theorem k230_23 : lkc 23 (kcode 230) = some (.iconst (-1)) := by decide +kernel
theorem k230_24 : lkc 24 (kcode 230) = some (.ireturn) := by decide +kernel
theorem k230_25 : lkc 25 (kcode 230) = some (.aload_n 0) := by decide +kernel
theorem k230_26 : lkc 26 (kcode 230) = some (.aload_n 0) := by decide +kernel
theorem k230_27 : lkc 27 (kcode 230) = some (.getfield 58) := by decide +kernel
theorem k230_30 : lkc 30 (kcode 230) = some (.bipush 24) := by decide +kernel
theorem k230_32 : lkc 32 (kcode 230) = some (.iaload) := by decide +kernel
theorem k230_33 : lkc 33 (kcode 230) = some (.invokevirtual 341) := by decide +kernel
theorem k230_36 : lkc 36 (kcode 230) = some (.aload_n 0) := by decide +kernel
theorem k230_37 : lkc 37 (kcode 230) = some (.aload_n 0) := by decide +kernel
theorem k230_38 : lkc 38 (kcode 230) = some (.getfield 58) := by decide +kernel
theorem k230_41 : lkc 41 (kcode 230) = some (.bipush 24) := by decide +kernel
theorem k230_43 : lkc 43 (kcode 230) = some (.iaload) := by decide +kernel
theorem k230_44 : lkc 44 (kcode 230) = some (.invokevirtual 319) := by decide +kernel
theorem k230_47 : lkc 47 (kcode 230) = some (.istore_n 3) := by decide +kernel
theorem k230_48 : lkc 48 (kcode 230) = some (.aload_n 0) := by decide +kernel
theorem k230_49 : lkc 49 (kcode 230) = some (.iconst (-1)) := by decide +kernel
theorem k230_50 : lkc 50 (kcode 230) = some (.putfield 416) := by decide +kernel
theorem k230_53 : lkc 53 (kcode 230) = some (.aload_n 0) := by decide +kernel
theorem k230_54 : lkc 54 (kcode 230) = some (.iconst (-1)) := by decide +kernel
theorem k230_55 : lkc 55 (kcode 230) = some (.putfield 419) := by decide +kernel
theorem k230_58 : lkc 58 (kcode 230) = some (.aload_n 0) := by decide +kernel
theorem k230_59 : lkc 59 (kcode 230) = some (.iload_n 1) := by decide +kernel
theorem k230_60 : lkc 60 (kcode 230) = some (.iload_n 3) := by decide +kernel
theorem k230_61 : lkc 61 (kcode 230) = some (.iconst 1) := by decide +kernel
theorem k230_62 : lkc 62 (kcode 230) = some (.iload_n 1) := by decide +kernel
theorem k230_63 : lkc 63 (kcode 230) = some (.ishl) := by decide +kernel
theorem k230_64 : lkc 64 (kcode 230) = some (.iconst (-1)) := by decide +kernel
theorem k230_65 : lkc 65 (kcode 230) = some (.ixor) := by decide +kernel
theorem k230_66 : lkc 66 (kcode 230) = some (.iand) := by decide +kernel
theorem k230_67 : lkc 67 (kcode 230) = some (.iconst 0) := by decide +kernel
theorem k230_68 : lkc 68 (kcode 230) = some (.iload_n 3) := by decide +kernel
theorem k230_69 : lkc 69 (kcode 230) = some (.iload_n 1) := by decide +kernel
theorem k230_70 : lkc 70 (kcode 230) = some (.invokestatic 223) := by decide +kernel
theorem k230_73 : lkc 73 (kcode 230) = some (.ifCond .eq 7) := by decide +kernel
theorem k230_76 : lkc 76 (kcode 230) = some (.iload_n 1) := by decide +kernel
theorem k230_77 : lkc 77 (kcode 230) = some (.goto 4) := by decide +kernel
theorem k230_80 : lkc 80 (kcode 230) = some (.iconst (-1)) := by decide +kernel
theorem k230_81 : lkc 81 (kcode 230) = some (.invokevirtual 422) := by decide +kernel
theorem k230_84 : lkc 84 (kcode 230) = some (.iload_n 2) := by decide +kernel
theorem k230_85 : lkc 85 (kcode 230) = some (.ifCond .ne 10) := by decide +kernel
theorem k230_88 : lkc 88 (kcode 230) = some (.aload_n 0) := by decide +kernel
theorem k230_89 : lkc 89 (kcode 230) = some (.getfield 416) := by decide +kernel
theorem k230_92 : lkc 92 (kcode 230) = some (.goto 7) := by decide +kernel
theorem k230_95 : lkc 95 (kcode 230) = some (.aload_n 0) := by decide +kernel
theorem k230_96 : lkc 96 (kcode 230) = some (.getfield 419) := by decide +kernel
theorem k230_99 : lkc 99 (kcode 230) = some (.ireturn) := by decide +kernel
/-! forward: the feast, the reference -/
def bfE (m : xM) (b : Option (Nat × Nat × Nat)) : Prop := (b = none ∧ m.1 314 48 = -1 ∧ m.1 314 49 = -1) ∨ ∃ t : Nat × Nat × Nat, b = some t ∧ t.1 < 10000000 ∧ t.2.1 = 0 ∧ t.2.2 < 100000000 ∧ m.1 314 48 = nI t.1 ∧ m.1 314 49 = nI t.2.2
def frZ (m m2 : xM) : Prop := m2.2 = m.2 ∧ ∀ a i, ¬ (a = 314 ∧ 48 ≤ i ∧ i ≤ 49) → m2.1 a i = m.1 a i
theorem frZ_rf (m : xM) : frZ m m := ⟨rfl, fun _ _ _ => rfl⟩
theorem frZ_tr {m m1 m2 : xM} (h : frZ m m1) (g : frZ m1 m2) : frZ m m2 := ⟨g.1.trans h.1, fun a i q => (g.2 a i q).trans (h.2 a i q)⟩
theorem frZ_r {m m2 : xM} (h : frZ m m2) (hr : rS m) : rS m2 := fun a i b e => by rw [h.1]; exact hr a i b e
theorem frZ_Y {m m2 : xM} {C : Nat} {D : Mt} (h : frZ m m2) (hY : mY m C D) : mY m2 C D := fun a b ha hb => by rw [h.2 _ _ (by omega)]; exact hY a b ha hb
theorem fsS_0 {C : Nat} {D : Mt} {a y r : Nat} (t : Nat × Nat × Nat) : fsS C D a 0 y r t ↔ t = (y, 0, r) := by
  constructor
  · rintro ⟨l, h1, h2⟩
    cases l with
    | nil => exact h2
    | cons c l =>
      have := h1.1
      rw [Nat.zero_testBit] at this
      cases this
  · intro e
    exact ⟨[], rfl, e⟩
theorem lo3_st {b : Option (Nat × Nat × Nat)} {t : Nat × Nat × Nat} (h : ∀ u, b = some u → le3 t u) : lo3 b (some t) (fun x => x = t) := ⟨Or.inr ⟨t, rfl, rfl⟩, fun u hu => ⟨t, rfl, h u hu⟩, fun u hu => ⟨t, rfl, by rw [hu]; exact le3_rf t⟩⟩
theorem lo3_ge {u : Nat × Nat × Nat} {S : Nat × Nat × Nat → Prop} (h : ∀ t, S t → le3 u t) : lo3 (some u) (some u) S := ⟨Or.inl rfl, fun v hv => ⟨u, rfl, by cases hv; exact le3_rf u⟩, fun v hv => ⟨u, rfl, h v hv⟩⟩
def goF (C : Nat) (D : Mt) (n : Nat) : Prop := ∀ (m : xM) (a left y r : Nat) (rI : Int32) (b0 : Option (Nat × Nat × Nat)), rS m → mY m C D → m.1 314 25 = nI C → a < C → left < 256 → pcv left C ≤ n → y + 100000 * n ≤ 800000 → (r + 1) * 10 ^ n ≤ 100000000 → (rI = nI r ∨ (rI = -1 ∧ r = 0 ∧ left ≠ 0)) → bfE m b0 → fC 229 [.ref 314, .int (nI a), .int (nI left), .int (nI y), .int rI] m (fun rv m' => rv = none ∧ frZ m m' ∧ ∃ b2, bfE m' b2 ∧ lo3 b0 b2 (fsS C D a left y r))
set_option maxHeartbeats 4000000 in
theorem c_goFeast1 {C : Nat} {D : Mt} (hC8 : C ≤ 8) (hDb : mle 100000 D) {n : Nat} (IH : ∀ k, k + 1 = n → goF C D k) : goF C D n := by
  intro m a left y r rI b0 hr hY hC ha hl hpn hyn hrn hri hb0
  refine fC_of (by decide) (fun d n9 P H => ?_)
  have hr8 := pw_r hrn
  replace H := f_iload_n H k229_0 rfl
  have Hbr := f_if_ne H k229_1 (t := 49) (by decide)
  clear H
  rcases Hbr with ⟨c0, H⟩ | ⟨c0, H⟩
  · rw [show (0 : Int32) = nI 0 from rfl, nI_inj (by omega) (by omega)] at c0
    have lp : ∀ n9 e m1 b1, e ≤ C → frZ m m1 → bfE m1 b1 → lo3 b0 b1 (fsU C D a left y r e) → xF 229 (xw d) P n9 69 [(5, .int (nI e)), (0, .ref 314), (1, .int (nI a)), (2, .int (nI left)), (3, .int (nI y)), (4, .int rI)] [] m1 → ∃ rv m', P rv m' ∧ rv = none ∧ frZ m m' ∧ ∃ b2, bfE m' b2 ∧ lo3 b0 b2 (fsS C D a left y r) := by
      intro n9
      induction n9 with
      | zero => exact fun e m1 b1 _ _ _ _ H => (xF_0 H).elim
      | succ n9 ih =>
        intro e m1 b1 he hf hb1 hl3 H
        have hr : rS m1 := frZ_r hf hr
        have hY1 : mY m1 C D := frZ_Y hf hY
        have hC1 : m1.1 314 25 = nI C := by rw [hf.2 _ _ (by omega)]; exact hC
        have nxt : ∀ m2 b2, e < C → frZ m m2 → bfE m2 b2 → lo3 b0 b2 (fsU C D a left y r (e + 1)) → xF 229 (xw d) P n9 139 [(5, .int (nI e)), (0, .ref 314), (1, .int (nI a)), (2, .int (nI left)), (3, .int (nI y)), (4, .int rI)] [] m2 → ∃ rv m', P rv m' ∧ rv = none ∧ frZ m m' ∧ ∃ b2, bfE m' b2 ∧ lo3 b0 b2 (fsS C D a left y r) := by
          intro m2 b2 he2 hf2 hb2 hl2 H
          replace H := f_iinc H k229_139 rfl (l2 := [(5, .int (nI e + 1)), (0, .ref 314), (1, .int (nI a)), (2, .int (nI left)), (3, .int (nI y)), (4, .int rI)]) rfl
          replace H := f_goto H k229_142 (t := 69) (by decide)
          rw [nI_s] at H
          exact ih (e + 1) m2 b2 he2 hf2 hb2 hl2 H
        have no : ¬ (left.testBit e = true ∧ D a e < 100000) → lo3 b0 b1 (fsU C D a left y r (e + 1)) := fun h => lo3_im hl3 (fsU_no h)
        replace H := f1_iload H k229_69 rfl
        replace H := f_aload_n H k229_71 rfl
        replace H := f_gi H k229_72 (ci := 12) (f := 25) (by decide +kernel) (by decide)
        rw [hC1] at H
        have Hbr := f_icmp_ge H k229_75 (t := 145) (by decide)
        clear H
        rcases Hbr with ⟨c1, H⟩ | ⟨c1, H⟩
        · rw [nxle (by omega) (by omega)] at c1
          have ee : e = C := by omega
          replace H := f_ret H k229_145
          rw [ee] at hl3
          exact ⟨_, _, H, rfl, hf, b1, hb1, lo3_im hl3 (fsU_C c0)⟩
        · rw [nxle (by omega) (by omega)] at c1
          have he2 : e < C := by omega
          have dB := hDb a e
          replace H := f_iload_n H k229_78 rfl
          replace H := f_iload H k229_79 rfl
          obtain ⟨rv, m3, ⟨rfl, e3⟩, h9_81⟩ := f_ins H k229_81 (by decide +kernel) (as := [.int _, .int _]) (r := []) (by rfl) (c_hasN (k := left) (j := e) (by omega) (by omega))
          replace H := h9_81
          rw [← e3] at H
          clear e3
          cases hb : left.testBit e with
          | false =>
            rw [hb] at H
            replace H := f_if_eq_t H k229_84 (by decide) (t := 139) (by decide)
            exact nxt m1 b1 he2 hf hb1 (no (fun q => by rw [hb] at q; cases q.1)) H
          | true =>
            rw [hb] at H
            replace H := f_if_eq_f H k229_84 (by decide)
            replace H := f_aload_n H k229_87 rfl
            replace H := f_iload_n H k229_88 rfl
            replace H := f_iload H k229_89 rfl
            obtain ⟨rv, m4, ⟨rfl, e3⟩, h9_91⟩ := f_inv H k229_91 (by decide +kernel) (as := [.int _, .int _]) (b := 314) (r := []) (by rfl) (c_mcan hr hC8 ha he2 hY1 hDb)
            replace H := h9_91
            rw [← e3] at H
            clear e3
            by_cases q : D a e < 100000
            · rw [if_pos q] at H
              have e1 := pcv_rm he2 hb
              obtain ⟨k, hk⟩ : ∃ k, k + 1 = n := ⟨n - 1, by omega⟩
              have p1 := pw_c r e k (by omega)
              rw [hk] at p1
              have p2 : (10 * r + e + 1) * 10 ^ k ≤ 100000000 := by omega
              have p3 := pw_r p2
              have recu : ∀ n8, xF 229 (xw d) P n8 136 [(5, .int (nI e)), (0, .ref 314), (1, .int (nI a)), (2, .int (nI left)), (3, .int (nI y)), (4, .int rI)] [.int (nI (10 * r + e)), .int (nI (y + D a e)), .int (nI (rmB left e)), .int (nI e), .ref 314] m1 → n8 ≤ n9 → ∃ rv m', P rv m' ∧ rv = none ∧ frZ m m' ∧ ∃ b2, bfE m' b2 ∧ lo3 b0 b2 (fsS C D a left y r) := by
                intro n8 H hn8
                replace H := f_up H hn8
                obtain ⟨rv, m5, ⟨rfl, hf3, b3, hb3, hl5⟩, h9_136⟩ := f_inv H k229_136 (by decide +kernel) (as := [.int _, .int _, .int _, .int _]) (b := 314) (r := []) (by rfl) (IH k hk m1 e (rmB left e) (y + D a e) (10 * r + e) (nI (10 * r + e)) b1 hr hY1 hC1 he2 (rmB_lt (k := 8) hl) (by omega) (by omega) p2 (Or.inl rfl) hb1)
                replace H := h9_136
                exact nxt m5 b3 he2 (frZ_tr hf hf3) hb3 (lo3_im (lo3_tr hl3 hl5) (fsU_ye he2 hb q)) H
              replace H := f_if_eq_f H k229_94 (by decide)
              replace H := f_aload_n H k229_97 rfl
              replace H := f_iload H k229_98 rfl
              replace H := f_iload_n H k229_100 rfl
              replace H := f_iconst H k229_101 (v := 1) (by decide)
              replace H := f_iload H k229_102 rfl
              replace H := f_ishl H k229_104
              replace H := f_iconst H k229_105 (v := -1) (by decide)
              replace H := f_ixor H k229_106
              replace H := f_iand H k229_107
              replace H := f_iload_n H k229_108 rfl
              replace H := f_aload_n H k229_109 rfl
              replace H := f_iload_n H k229_110 rfl
              replace H := f_iload H k229_111 rfl
              rw [shl_n (by omega), rmB_n] at H
              obtain ⟨rv, m6, ⟨rfl, e3⟩, h9_113⟩ := f_inv H k229_113 (by decide +kernel) (as := [.int _, .int _]) (b := 314) (r := [.int _, .int _, .int _, .ref 314]) (by rfl) (c_far0 hr hC8 ha he2 hY1)
              replace H := h9_113
              rw [← e3] at H
              clear e3
              replace H := f_iadd H k229_116
              replace H := f_iload H k229_117 rfl
              replace H := f_iconst H k229_119 (v := -1) (by decide)
              rw [r_ad] at H
              rcases hri with hri | ⟨hri, hr0, -⟩
              · replace H := f_icmp_ne_t H k229_120 (by rw [hri]; exact nI_ne1 (by omega)) (t := 128) (by decide)
                replace H := f_bipush H k229_128 (v := 10) (by decide)
                replace H := f_iload H k229_130 rfl
                replace H := f_imul H k229_132
                replace H := f_iload H k229_133 rfl
                replace H := f_iadd H k229_135
                rw [hri, show (10 : Int32) = nI 10 from rfl, nI_mul, r_ad] at H
                rw [hri] at recu
                exact recu _ H (Nat.le_refl _)
              · replace H := f_icmp_ne_f H k229_120 hri
                replace H := f_iload H k229_123 rfl
                replace H := f_goto H k229_125 (t := 136) (by decide)
                exact recu _ (by rw [hr0, Nat.mul_zero, Nat.zero_add]; exact H) (Nat.le_refl _)
            · rw [if_neg q] at H
              replace H := f_if_eq_t H k229_94 rfl (t := 139) (by decide)
              exact nxt m1 b1 he2 hf hb1 (no (fun w9 => q w9.2)) H
    have go : ∀ n9, xF 229 (xw d) P n9 66 [(0, .ref 314), (1, .int (nI a)), (2, .int (nI left)), (3, .int (nI y)), (4, .int rI)] [] m → ∃ rv m', P rv m' ∧ rv = none ∧ frZ m m' ∧ ∃ b2, bfE m' b2 ∧ lo3 b0 b2 (fsS C D a left y r) := by
      intro n9 H
      replace H := f_iconst H k229_66 (v := 0) (by decide)
      replace H := f_istore H k229_67 (l2 := [(5, .int 0), (0, .ref 314), (1, .int (nI a)), (2, .int (nI left)), (3, .int (nI y)), (4, .int rI)]) rfl
      replace H := f_ext H (l' := [(5, .int (nI 0)), (0, .ref 314), (1, .int (nI a)), (2, .int (nI left)), (3, .int (nI y)), (4, .int rI)]) (lE_cons rfl (lE_cons rfl (lE_cons rfl (lE_cons rfl (lE_cons rfl (lE_cons rfl (lE_nil))))))) rfl rfl
      exact lp _ 0 m b0 (Nat.zero_le _) (frZ_rf m) hb0 (lo3_no (fun t h => by
        obtain ⟨c, l, h1, -⟩ := h
        exact absurd h1 (Nat.not_lt_zero c))) H
    replace H := f_aload_n H k229_49 rfl
    replace H := f_gi H k229_50 (ci := 12) (f := 48) (by decide +kernel) (by decide)
    replace H := f_iconst H k229_53 (v := -1) (by decide)
    rcases id hb0 with ⟨e0, h48, h49⟩ | ⟨u, e0, u1, u2, u3, h48, h49⟩
    · replace H := f_icmp_eq_t H k229_54 h48 (t := 66) (by decide)
      exact go _ H
    · replace H := f_icmp_eq_f H k229_54 (by rw [h48]; exact nI_ne1 (by omega))
      replace H := f_iload_n H k229_57 rfl
      replace H := f_aload_n H k229_58 rfl
      replace H := f_gi H k229_59 (ci := 12) (f := 48) (by decide +kernel) (by decide)
      rw [h48] at H
      have Hbr := f_icmp_le H k229_62 (t := 66) (by decide)
      clear H
      rcases Hbr with ⟨c1, H⟩ | ⟨c1, H⟩
      · exact go _ H
      · rw [nxle (by omega) (by omega)] at c1
        replace H := f_ret H k229_65
        refine ⟨_, _, H, rfl, frZ_rf m, b0, hb0, ?_⟩
        rw [e0]
        refine lo3_ge (fun t ht => ?_)
        obtain ⟨l, -, e⟩ := ht
        rw [e]
        exact Or.inl (by show u.1 < y + dwk D a l; omega)
  · rw [show (0 : Int32) = nI 0 from rfl, nI_inj (by omega) (by omega)] at c0
    have hri : rI = nI r := by
      rcases hri with h | ⟨-, -, h⟩
      · exact h
      · exact absurd c0 h
    subst hri c0
    have kp : ∀ n9, lo3 b0 b0 (fun x => x = (y, 0, r)) → xF 229 (xw d) P n9 48 [(0, .ref 314), (1, .int (nI a)), (2, .int (nI 0)), (3, .int (nI y)), (4, .int (nI r))] [] m → ∃ rv m', P rv m' ∧ rv = none ∧ frZ m m' ∧ ∃ b2, bfE m' b2 ∧ lo3 b0 b2 (fsS C D a 0 y r) := by
      intro n9 hl H
      replace H := f_ret H k229_48
      exact ⟨_, _, H, rfl, frZ_rf m, b0, hb0, lo3_im hl (fun t => (fsS_0 t).symm)⟩
    have se : ∀ n9, (∀ u, b0 = some u → le3 (y, 0, r) u) → xF 229 (xw d) P n9 37 [(0, .ref 314), (1, .int (nI a)), (2, .int (nI 0)), (3, .int (nI y)), (4, .int (nI r))] [] m → ∃ rv m', P rv m' ∧ rv = none ∧ frZ m m' ∧ ∃ b2, bfE m' b2 ∧ lo3 b0 b2 (fsS C D a 0 y r) := by
      intro n9 hl H
      replace H := f_aload_n H k229_37 rfl
      replace H := f_iload_n H k229_38 rfl
      replace H := f_put_i H k229_39 (ci := 12) (f := 48) (by decide +kernel) (by decide)
      replace H := f_aload_n H k229_42 rfl
      replace H := f_iload H k229_43 rfl
      replace H := f_put_i H k229_45 (ci := 12) (f := 49) (by decide +kernel) (by decide)
      replace H := f_ret H k229_48
      exact ⟨_, _, H, rfl, ⟨rfl, fun a i h => by rw [mI_ne (by omega), mI_ne (by omega)]⟩, some (y, 0, r), Or.inr ⟨(y, 0, r), rfl, by show y < 10000000; omega, rfl, hr8, by rw [mI_ne (by omega)]; exact mI_at, mI_at⟩, lo3_im (lo3_st hl) (fun t => (fsS_0 t).symm)⟩
    replace H := f_aload_n H k229_4 rfl
    replace H := f_gi H k229_5 (ci := 12) (f := 48) (by decide +kernel) (by decide)
    replace H := f_iconst H k229_8 (v := -1) (by decide)
    rcases id hb0 with ⟨e0, h48, h49⟩ | ⟨u, e0, u1, u2, u3, h48, h49⟩
    · replace H := f_icmp_eq_t H k229_9 h48 (t := 37) (by decide)
      exact se _ (fun v hv => by rw [e0] at hv; cases hv) H
    · have yes : le3 (y, 0, r) u → ∀ v, b0 = some v → le3 (y, 0, r) v := fun h v hv => by rw [e0] at hv; cases hv; exact h
      have nop : le3 u (y, 0, r) → lo3 b0 b0 (fun x => x = (y, 0, r)) := fun h => by
        rw [e0]
        exact lo3_ge (fun t ht => by rw [ht]; exact h)
      replace H := f_icmp_eq_f H k229_9 (by rw [h48]; exact nI_ne1 (by omega))
      replace H := f_iload_n H k229_12 rfl
      replace H := f_aload_n H k229_13 rfl
      replace H := f_gi H k229_14 (ci := 12) (f := 48) (by decide +kernel) (by decide)
      rw [h48] at H
      have Hbr := f_icmp_lt H k229_17 (t := 37) (by decide)
      clear H
      rcases Hbr with ⟨c2, H⟩ | ⟨c2, H⟩
      · rw [nxlt (by omega) (by omega)] at c2
        exact se _ (yes (Or.inl c2)) H
      · rw [nxlt (by omega) (by omega)] at c2
        replace H := f_iload_n H k229_20 rfl
        replace H := f_aload_n H k229_21 rfl
        replace H := f_gi H k229_22 (ci := 12) (f := 48) (by decide +kernel) (by decide)
        rw [h48] at H
        have Hbr := f_icmp_ne H k229_25 (t := 48) (by decide)
        clear H
        rcases Hbr with ⟨c3, H⟩ | ⟨c3, H⟩
        · rw [nI_inj (by omega) (by omega)] at c3
          exact kp _ (nop (Or.inl (by show u.1 < y; omega))) H
        · rw [nI_inj (by omega) (by omega)] at c3
          replace H := f_iload H k229_28 rfl
          replace H := f_aload_n H k229_30 rfl
          replace H := f_gi H k229_31 (ci := 12) (f := 49) (by decide +kernel) (by decide)
          rw [h49] at H
          have Hbr := f_icmp_ge H k229_34 (t := 48) (by decide)
          clear H
          rcases Hbr with ⟨c4, H⟩ | ⟨c4, H⟩
          · rw [nxle (by omega) (by omega)] at c4
            exact kp _ (nop (Or.inr ⟨c3.symm, Or.inr ⟨u2, c4⟩⟩)) H
          · rw [nxle (by omega) (by omega)] at c4
            exact se _ (yes (Or.inr ⟨c3, Or.inr ⟨u2.symm, by show r ≤ u.2.2; omega⟩⟩)) H
theorem c_goFeast {C : Nat} {D : Mt} (hC8 : C ≤ 8) (hDb : mle 100000 D) : ∀ n, goF C D n := by
  intro n
  induction n with
  | zero => exact c_goFeast1 hC8 hDb (fun k hk => absurd hk (by omega))
  | succ n ih => exact c_goFeast1 hC8 hDb (fun k hk => by rw [show k = n by omega]; exact ih)
theorem c_goFeast0 {m : xM} {a : Nat} (hr : rS m) (h48 : m.1 314 48 = -1) : fC 229 [.ref 314, .int (nI a), .int (nI 0), .int (nI 0), .int (-1)] m (fun rv m' => rv = none ∧ m'.1 314 48 = nI 0 ∧ m'.1 314 49 = -1) := by
  refine fC_of (by decide) (fun d n P H => ?_)
  replace H := f_iload_n H k229_0 rfl
  replace H := f_if_ne_f H k229_1 rfl
  replace H := f_aload_n H k229_4 rfl
  replace H := f_gi H k229_5 (ci := 12) (f := 48) (by decide +kernel) (by decide)
  replace H := f_iconst H k229_8 (v := -1) (by decide)
  replace H := f_icmp_eq_t H k229_9 h48 (t := 37) (by decide)
  replace H := f_aload_n H k229_37 rfl
  replace H := f_iload_n H k229_38 rfl
  replace H := f_put_i H k229_39 (ci := 12) (f := 48) (by decide +kernel) (by decide)
  replace H := f_aload_n H k229_42 rfl
  replace H := f_iload H k229_43 rfl
  replace H := f_put_i H k229_45 (ci := 12) (f := 49) (by decide +kernel) (by decide)
  replace H := f_ret H k229_48
  exact ⟨_, _, H, rfl, by rw [mI_ne (by omega)]; exact mI_at, mI_at⟩
set_option maxHeartbeats 2000000 in
theorem c_mfeast {m : xM} {C S w : Nat} {A B Y : Nat → Nat} {z y : Int32} (hr : rS m) (hT : mT m C S A B Y) (hw : m.1 326 24 = nI w) (hw2 : w < 65536) : fC 230 [.ref 314, .int z, .int y] m (fun rv m' => ∃ v, rv = some (.int v) ∧ fsV C (wyM C S A B Y w) (chp A B S w C) z y v) := by
  refine fC_of (by decide) (fun d n P H => ?_)
  have c24 : (24 : Int32).toNatClampNeg = 24 := by decide
  replace H := f_aload_n H k230_0 rfl
  replace H := f_iconst H k230_1 (v := 0) (by decide)
  replace H := f_put_i H k230_2 (ci := 12) (f := 0) (by decide +kernel) (by decide)
  have hr : rS (mI m 314 0 0) := hr
  have hT : mT (mI m 314 0 0) C S A B Y := mT_f hT (fun i => ⟨⟨mI_ne (by omega), mI_ne (by omega)⟩, mI_ne (by omega)⟩)
  have hw : (mI m 314 0 0).1 326 24 = nI w := by rw [mI_ne (by omega)]; exact hw
  generalize mI m 314 0 0 = m at *
  have hC8 : C ≤ 8 := hT.2.2.1
  have hSt := mT_st hT
  have neg : ∀ n, ¬ ((∃ a, a < C ∧ z = nI a) ∧ ∃ q, q < 2 ∧ y = nI q) → xF 230 (xw d) P n 23 [(0, .ref 314), (1, .int z), (2, .int y)] [] m → ∃ rv m', P rv m' ∧ ∃ v, rv = some (.int v) ∧ fsV C (wyM C S A B Y w) (chp A B S w C) z y v := by
    intro n hn H
    replace H := f_iconst H k230_23 (v := -1) (by decide)
    replace H := f_iret H k230_24
    exact ⟨_, _, H, _, rfl, Or.inr ⟨hn, rfl⟩⟩
  replace H := f_aload_n H k230_5 rfl
  replace H := f_iload_n H k230_6 rfl
  obtain ⟨rv, m3, ⟨ho1, e3⟩, h9_7⟩ := f_inv H k230_7 (by decide +kernel) (as := [.int _]) (b := 314) (r := []) (by rfl) (c_misCornerN hr hT.1 (by omega))
  replace H := h9_7
  rw [← e3] at H
  clear e3
  rcases ho1 with ⟨a, ha, hza, rfl⟩ | ⟨h0, rfl⟩
  case inr =>
    replace H := f_if_eq_t H k230_10 rfl (t := 23) (by decide)
    exact neg _ (fun h => by
      obtain ⟨⟨b, hb, e⟩, -⟩ := h
      exact h0 b hb e) H
  subst hza
  replace H := f_if_eq_f H k230_10 (by decide)
  replace H := f_iload_n H k230_13 rfl
  replace H := f_i2l H k230_14
  replace H := f_lconst H k230_15 (v := 0) (by decide)
  replace H := f_lconst H k230_16 (v := 1) (by decide)
  obtain ⟨rv, m3, ⟨ho, e3⟩, h9_17⟩ := f_ins H k230_17 (by decide +kernel) (as := [.long _, .long _, .long _]) (r := []) (by rfl) (c_isInK (v := y) (l := 0) (mo := 1) (by decide) (by decide))
  replace H := h9_17
  rw [← e3] at H
  clear e3
  rcases ho with ⟨o1, o2, rfl⟩ | ⟨o1, rfl⟩
  case inr =>
    replace H := f_if_ne_f H k230_20 rfl
    rw [Int32.lt_iff_toInt_lt, Int32.lt_iff_toInt_lt, show (0 : Int32).toInt = 0 by decide, show (1 : Int32).toInt = 1 by decide] at o1
    exact neg _ (fun ⟨_, q, hq, e⟩ => by rw [e, nI_toInt (by omega)] at o1; omega) H
  rw [Int32.le_iff_toInt_le] at o1 o2
  rw [show (0 : Int32).toInt = 0 by decide] at o1
  rw [show (1 : Int32).toInt = 1 by decide] at o2
  obtain ⟨q, hq, rfl⟩ := i_rng (x := y) (L := 1) (by omega) (by omega) (by decide)
  clear neg
  have hch : chp A B S w C < 256 := Nat.lt_of_lt_of_le (chp_lt C) (p2_8 hC8)
  replace H := f_if_ne_t H k230_20 (by decide) (t := 25) (by decide)
  replace H := f_aload_n H k230_25 rfl
  replace H := f_aload_n H k230_26 rfl
  replace H := f_gr H k230_27 (ci := 12) (f := 32) (x := 326) (by decide +kernel) (by decide) (hr 314 32 326 rfl)
  replace H := f_bipush H k230_30 (v := 24) (by decide)
  have Hob := f_iald H k230_32 (c := 208) (by decide)
  clear H
  obtain ⟨hb32, H⟩ := Hob
  rw [c24, hw] at H
  obtain ⟨rv, m6, ⟨rfl, hf, hY⟩, h9_33⟩ := f_inv H k230_33 (by decide +kernel) (as := [.int _]) (b := 314) (r := []) (by rfl) (c_laysYards hr hT hw2)
  replace H := h9_33
  have hr : rS m6 := fun a i b e => by rw [hf.1]; exact hr a i b e
  have hT : mT m6 C S A B Y := mT_f hT (fun i => ⟨⟨hf.2 _ _ (by omega), hf.2 _ _ (by omega)⟩, hf.2 _ _ (by omega)⟩)
  have hw : m6.1 326 24 = nI w := by rw [hf.2 _ _ (by omega)]; exact hw
  replace H := f_aload_n H k230_36 rfl
  replace H := f_aload_n H k230_37 rfl
  replace H := f_gr H k230_38 (ci := 12) (f := 32) (x := 326) (by decide +kernel) (by decide) (hr 314 32 326 rfl)
  replace H := f_bipush H k230_41 (v := 24) (by decide)
  have Hob := f_iald H k230_43 (c := 208) (by decide)
  clear H
  obtain ⟨hb43, H⟩ := Hob
  rw [c24, hw] at H
  obtain ⟨rv, m7, ⟨rfl, e3⟩, h9_44⟩ := f_inv H k230_44 (by decide +kernel) (as := [.int _]) (b := 314) (r := []) (by rfl) (c_mchapels hr hT hw2)
  replace H := h9_44
  rw [← e3] at H
  clear e3
  obtain ⟨ch, hce⟩ : ∃ ch, ch = chp A B S w C := ⟨_, rfl⟩
  have hDb : mle 100000 (wyM C S A B Y w) := fwO_le (wsM_le hSt) C
  obtain ⟨D, hD⟩ : ∃ D, D = wyM C S A B Y w := ⟨_, rfl⟩
  rw [← hce] at H hch
  rw [← hce, ← hD]
  rw [← hD] at hY hDb
  have wrap : ∀ v, ((ch = 0 ∧ v = if q = 0 then 0 else -1) ∨ (ch ≠ 0 ∧ (¬ ∃ l, feL C D a (rmB ch a) l) ∧ v = -1) ∨ (ch ≠ 0 ∧ ∃ l, fsB C D a (rmB ch a) l ∧ v = if q = 0 then nI (dwk D a l) else nI (rowL (if ch.testBit a = true then a else 0) l))) → fsV C D ch (nI a) (nI q) v := fun v h => Or.inl ⟨a, q, ha, by omega, rfl, rfl, h⟩
  replace H := f_istore_n H k230_47 (l2 := [(3, .int (nI ch)), (0, .ref 314), (1, .int (nI a)), (2, .int (nI q))]) rfl
  replace H := f_aload_n H k230_48 rfl
  replace H := f_iconst H k230_49 (v := -1) (by decide)
  replace H := f_put_i H k230_50 (ci := 12) (f := 48) (by decide +kernel) (by decide)
  replace H := f_aload_n H k230_53 rfl
  replace H := f_iconst H k230_54 (v := -1) (by decide)
  replace H := f_put_i H k230_55 (ci := 12) (f := 49) (by decide +kernel) (by decide)
  replace H := f_aload_n H k230_58 rfl
  replace H := f_iload_n H k230_59 rfl
  replace H := f_iload_n H k230_60 rfl
  replace H := f_iconst H k230_61 (v := 1) (by decide)
  replace H := f_iload_n H k230_62 rfl
  replace H := f_ishl H k230_63
  replace H := f_iconst H k230_64 (v := -1) (by decide)
  replace H := f_ixor H k230_65
  replace H := f_iand H k230_66
  replace H := f_iconst H k230_67 (v := 0) (by decide)
  replace H := f_iload_n H k230_68 rfl
  replace H := f_iload_n H k230_69 rfl
  rw [shl_n (by omega), rmB_n] at H
  have hr8 : rS (mI (mI m6 314 48 (-1)) 314 49 (-1)) := hr
  have hY8 : mY (mI (mI m6 314 48 (-1)) 314 49 (-1)) C D := fun a9 b9 ha9 hb9 => by rw [mI_ne (by omega), mI_ne (by omega)]; exact hY a9 b9 ha9 hb9
  have hC8' : (mI (mI m6 314 48 (-1)) 314 49 (-1)).1 314 25 = nI C := by rw [mI_ne (by omega), mI_ne (by omega)]; exact hT.1
  have hb8 : bfE (mI (mI m6 314 48 (-1)) 314 49 (-1)) none := Or.inl ⟨rfl, by rw [mI_ne (by omega)]; exact mI_at, mI_at⟩
  generalize mI (mI m6 314 48 (-1)) 314 49 (-1) = m8 at *
  have hr := hr8
  have ans : ∀ n m9 r b2 rI, ch ≠ 0 → r = (if ch.testBit a = true then a else 0) → bfE m9 b2 → lo3 none b2 (fsS C D a (rmB ch a) 0 r) → xF 230 (xw d) P n 84 [(3, .int (nI ch)), (0, .ref 314), (1, .int (nI a)), (2, .int (nI q))] [] m9 → rI = r → ∃ rv m', P rv m' ∧ ∃ v, rv = some (.int v) ∧ fsV C D ch (nI a) (nI q) v := by
    intro n m9 r b2 rI hc0 er hb2 hlo H _
    replace H := f_iload_n H k230_84 rfl
    by_cases q0 : q = 0
    · replace H := f_if_ne_f H k230_85 (by rw [q0]; rfl)
      replace H := f_aload_n H k230_88 rfl
      replace H := f_gi H k230_89 (ci := 12) (f := 48) (by decide +kernel) (by decide)
      replace H := f_goto H k230_92 (t := 99) (by decide)
      replace H := f_iret H k230_99
      refine ⟨_, _, H, _, rfl, wrap _ ?_⟩
      rcases fsB_lo hlo with ⟨e, hno⟩ | ⟨l, hl, e⟩ <;> rcases hb2 with ⟨e2, h48, h49⟩ | ⟨u, e2, -, -, -, h48, h49⟩
      · exact Or.inr (Or.inl ⟨hc0, hno, h48⟩)
      · rw [e] at e2
        cases e2
      · rw [e] at e2
        cases e2
      · rw [e] at e2
        cases e2
        exact Or.inr (Or.inr ⟨hc0, l, hl, by rw [if_pos q0]; exact h48⟩)
    · replace H := f_if_ne_t H k230_85 (by rw [show (0 : Int32) = nI 0 from rfl, nI_inj (by omega) (by omega)]; exact q0) (t := 95) (by decide)
      replace H := f_aload_n H k230_95 rfl
      replace H := f_gi H k230_96 (ci := 12) (f := 49) (by decide +kernel) (by decide)
      replace H := f_iret H k230_99
      refine ⟨_, _, H, _, rfl, wrap _ ?_⟩
      rcases fsB_lo hlo with ⟨e, hno⟩ | ⟨l, hl, e⟩ <;> rcases hb2 with ⟨e2, h48, h49⟩ | ⟨u, e2, -, -, -, h48, h49⟩
      · exact Or.inr (Or.inl ⟨hc0, hno, h49⟩)
      · rw [e] at e2
        cases e2
      · rw [e] at e2
        cases e2
      · rw [e] at e2
        cases e2
        exact Or.inr (Or.inr ⟨hc0, l, hl, by rw [if_neg q0, ← er]; exact h49⟩)
  obtain ⟨rv, m9, ⟨rfl, e3⟩, h9_70⟩ := f_ins H k230_70 (by decide +kernel) (as := [.int _, .int _]) (r := [.int _, .int _, .int _, .ref 314]) (by rfl) (c_hasN (k := ch) (j := a) (by omega) (by omega))
  replace H := h9_70
  rw [← e3] at H
  clear e3
  have p7 : (a + 1) * 10 ^ 7 ≤ 8 * 10 ^ 7 := Nat.mul_le_mul_right _ (by omega)
  have pch := pcv_le ch C
  cases hb : ch.testBit a with
  | true =>
    rw [hb] at H
    have e1 := pcv_rm ha hb
    have hc0 : ch ≠ 0 := fun z => by rw [z, Nat.zero_testBit] at hb; cases hb
    have G := c_goFeast hC8 hDb 7 m8 a (rmB ch a) 0 a (nI a) none hr8 hY8 hC8' ha (rmB_lt (k := 8) hch) (by omega) (by omega) (by omega) (Or.inl rfl) hb8
    replace H := f_if_eq_f H k230_73 (by decide)
    replace H := f_iload_n H k230_76 rfl
    replace H := f_goto H k230_77 (t := 81) (by decide)
    obtain ⟨rv, m10, ⟨rfl, hf9, b9, hb9, hl9⟩, h9_81⟩ := f_inv H k230_81 (by decide +kernel) (as := [.int _, .int _, .int _, .int _]) (b := 314) (r := []) (by rfl) (G)
    replace H := h9_81
    exact ans _ m10 a b9 a hc0 (by rw [hb, if_pos rfl]) hb9 hl9 H rfl
  | false =>
    rw [hb] at H
    have e0 : rmB ch a = ch := if_neg (by rw [hb]; decide)
    by_cases hc0 : ch = 0
    · rw [e0, hc0] at H
      replace H := f_if_eq_t H k230_73 rfl (t := 80) (by decide)
      replace H := f_iconst H k230_80 (v := -1) (by decide)
      have h48 : m8.1 314 48 = -1 := by
        rcases hb8 with ⟨-, h, -⟩ | ⟨u, e, -⟩
        · exact h
        · cases e
      obtain ⟨rv, m10, ⟨rfl, g48, g49⟩, h9_81⟩ := f_inv H k230_81 (by decide +kernel) (as := [.int _, .int _, .int _, .int _]) (b := 314) (r := []) (by rfl) (c_goFeast0 hr8 h48)
      replace H := h9_81
      replace H := f_iload_n H k230_84 rfl
      by_cases q0 : q = 0
      · replace H := f_if_ne_f H k230_85 (by rw [q0]; rfl)
        replace H := f_aload_n H k230_88 rfl
        replace H := f_gi H k230_89 (ci := 12) (f := 48) (by decide +kernel) (by decide)
        replace H := f_goto H k230_92 (t := 99) (by decide)
        rw [g48] at H
        replace H := f_iret H k230_99
        exact ⟨_, _, H, _, rfl, wrap _ (Or.inl ⟨hc0, by rw [if_pos q0]; rfl⟩)⟩
      · replace H := f_if_ne_t H k230_85 (by rw [show (0 : Int32) = nI 0 from rfl, nI_inj (by omega) (by omega)]; exact q0) (t := 95) (by decide)
        replace H := f_aload_n H k230_95 rfl
        replace H := f_gi H k230_96 (ci := 12) (f := 49) (by decide +kernel) (by decide)
        rw [g49] at H
        replace H := f_iret H k230_99
        exact ⟨_, _, H, _, rfl, wrap _ (Or.inl ⟨hc0, by rw [if_neg q0]⟩)⟩
    · have G := c_goFeast hC8 hDb 8 m8 a (rmB ch a) 0 0 (-1) none hr8 hY8 hC8' ha (rmB_lt (k := 8) hch) (by rw [e0]; omega) (by omega) (by decide) (Or.inr ⟨rfl, rfl, by rw [e0]; exact hc0⟩) hb8
      replace H := f_if_eq_t H k230_73 rfl (t := 80) (by decide)
      replace H := f_iconst H k230_80 (v := -1) (by decide)
      obtain ⟨rv, m10, ⟨rfl, hf9, b9, hb9, hl9⟩, h9_81⟩ := f_inv H k230_81 (by decide +kernel) (as := [.int _, .int _, .int _, .int _]) (b := 314) (r := []) (by rfl) (G)
      replace H := h9_81
      exact ans _ m10 0 b9 0 hc0 (by rw [hb, if_neg (by decide)]) hb9 hl9 H rfl
