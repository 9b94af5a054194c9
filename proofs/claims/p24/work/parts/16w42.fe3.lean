theorem k93_0 : lkc 0 (kcode 93) = some (.aload_n 0) := by decide +kernel
theorem k93_1 : lkc 1 (kcode 93) = some (.iload_n 1) := by decide +kernel
theorem k93_2 : lkc 2 (kcode 93) = some (.iload_n 2) := by decide +kernel
theorem k93_3 : lkc 3 (kcode 93) = some (.iconst 1) := by decide +kernel
theorem k93_4 : lkc 4 (kcode 93) = some (.iload_n 1) := by decide +kernel
theorem k93_5 : lkc 5 (kcode 93) = some (.ishl) := by decide +kernel
theorem k93_6 : lkc 6 (kcode 93) = some (.iconst (-1)) := by decide +kernel
theorem k93_7 : lkc 7 (kcode 93) = some (.ixor) := by decide +kernel
theorem k93_8 : lkc 8 (kcode 93) = some (.iand) := by decide +kernel
theorem k93_9 : lkc 9 (kcode 93) = some (.invokevirtual 74) := by decide +kernel
theorem k93_12 : lkc 12 (kcode 93) = some (.ireturn) := by decide +kernel
theorem k94_0 : lkc 0 (kcode 94) = some (.iload_n 2) := by decide +kernel
theorem k94_1 : lkc 1 (kcode 94) = some (.iload_n 1) := by decide +kernel
theorem k94_2 : lkc 2 (kcode 94) = some (.ishr) := by decide +kernel
theorem k94_3 : lkc 3 (kcode 94) = some (.iconst 1) := by decide +kernel
theorem k94_4 : lkc 4 (kcode 94) = some (.iand) := by decide +kernel
theorem k94_5 : lkc 5 (kcode 94) = some (.ifCond .eq 7) := by decide +kernel
theorem k94_8 : lkc 8 (kcode 94) = some (.iload_n 1) := by decide +kernel
theorem k94_9 : lkc 9 (kcode 94) = some (.goto 4) := by decide +kernel
theorem k94_12 : lkc 12 (kcode 94) = some (.iconst 0) := by decide +kernel
theorem k94_13 : lkc 13 (kcode 94) = some (.istore_n 3) := by decide +kernel
theorem k94_14 : lkc 14 (kcode 94) = some (.iload_n 2) := by decide +kernel
theorem k94_15 : lkc 15 (kcode 94) = some (.iconst 1) := by decide +kernel
theorem k94_16 : lkc 16 (kcode 94) = some (.iload_n 1) := by decide +kernel
theorem k94_17 : lkc 17 (kcode 94) = some (.ishl) := by decide +kernel
theorem k94_18 : lkc 18 (kcode 94) = some (.iconst (-1)) := by decide +kernel
theorem k94_19 : lkc 19 (kcode 94) = some (.ixor) := by decide +kernel
theorem k94_20 : lkc 20 (kcode 94) = some (.iand) := by decide +kernel
theorem k94_21 : lkc 21 (kcode 94) = some (.istore 4) := by decide +kernel
theorem k94_23 : lkc 23 (kcode 94) = some (.iload_n 1) := by decide +kernel
theorem k94_24 : lkc 24 (kcode 94) = some (.istore 5) := by decide +kernel
theorem k94_26 : lkc 26 (kcode 94) = some (.iconst 0) := by decide +kernel
theorem k94_27 : lkc 27 (kcode 94) = some (.istore 6) := by decide +kernel
theorem k94_29 : lkc 29 (kcode 94) = some (.iload 6) := by decide +kernel
theorem k94_31 : lkc 31 (kcode 94) = some (.aload_n 0) := by decide +kernel
theorem k94_32 : lkc 32 (kcode 94) = some (.getfield 29) := by decide +kernel
theorem k94_35 : lkc 35 (kcode 94) = some (.if_icmp .ge 88) := by decide +kernel
theorem k94_38 : lkc 38 (kcode 94) = some (.iload 4) := by decide +kernel
theorem k94_40 : lkc 40 (kcode 94) = some (.ifCond .eq 83) := by decide +kernel
theorem k94_43 : lkc 43 (kcode 94) = some (.iconst 0) := by decide +kernel
theorem k94_44 : lkc 44 (kcode 94) = some (.istore 7) := by decide +kernel
theorem k94_46 : lkc 46 (kcode 94) = some (.iload 7) := by decide +kernel
theorem k94_48 : lkc 48 (kcode 94) = some (.aload_n 0) := by decide +kernel
theorem k94_49 : lkc 49 (kcode 94) = some (.getfield 29) := by decide +kernel
theorem k94_52 : lkc 52 (kcode 94) = some (.iconst 1) := by decide +kernel
theorem k94_53 : lkc 53 (kcode 94) = some (.isub) := by decide +kernel
theorem k94_54 : lkc 54 (kcode 94) = some (.if_icmp .ge 40) := by decide +kernel
theorem k94_57 : lkc 57 (kcode 94) = some (.iload 4) := by decide +kernel
theorem k94_59 : lkc 59 (kcode 94) = some (.iload 7) := by decide +kernel
theorem k94_61 : lkc 61 (kcode 94) = some (.ishr) := by decide +kernel
theorem k94_62 : lkc 62 (kcode 94) = some (.iconst 1) := by decide +kernel
theorem k94_63 : lkc 63 (kcode 94) = some (.iand) := by decide +kernel
theorem k94_64 : lkc 64 (kcode 94) = some (.ifCond .eq 24) := by decide +kernel
theorem k94_67 : lkc 67 (kcode 94) = some (.aload_n 0) := by decide +kernel
theorem k94_68 : lkc 68 (kcode 94) = some (.iload 5) := by decide +kernel
theorem k94_70 : lkc 70 (kcode 94) = some (.iload 4) := by decide +kernel
theorem k94_72 : lkc 72 (kcode 94) = some (.iload 7) := by decide +kernel
theorem k94_74 : lkc 74 (kcode 94) = some (.invokevirtual 70) := by decide +kernel
theorem k94_77 : lkc 77 (kcode 94) = some (.aload_n 0) := by decide +kernel
theorem k94_78 : lkc 78 (kcode 94) = some (.iload 5) := by decide +kernel
theorem k94_80 : lkc 80 (kcode 94) = some (.iload 4) := by decide +kernel
theorem k94_82 : lkc 82 (kcode 94) = some (.invokevirtual 74) := by decide +kernel
theorem k94_85 : lkc 85 (kcode 94) = some (.if_icmp .eq 9) := by decide +kernel
theorem k94_88 : lkc 88 (kcode 94) = some (.iinc 7 1) := by decide +kernel
theorem k94_91 : lkc 91 (kcode 94) = some (.goto (-45)) := by decide +kernel
theorem k94_94 : lkc 94 (kcode 94) = some (.iload_n 3) := by decide +kernel
theorem k94_95 : lkc 95 (kcode 94) = some (.bipush 10) := by decide +kernel
theorem k94_97 : lkc 97 (kcode 94) = some (.imul) := by decide +kernel
theorem k94_98 : lkc 98 (kcode 94) = some (.iload 7) := by decide +kernel
theorem k94_100 : lkc 100 (kcode 94) = some (.iadd) := by decide +kernel
theorem k94_101 : lkc 101 (kcode 94) = some (.istore_n 3) := by decide +kernel
theorem k94_102 : lkc 102 (kcode 94) = some (.iload 4) := by decide +kernel
theorem k94_104 : lkc 104 (kcode 94) = some (.iconst 1) := by decide +kernel
theorem k94_105 : lkc 105 (kcode 94) = some (.iload 7) := by decide +kernel
theorem k94_107 : lkc 107 (kcode 94) = some (.ishl) := by decide +kernel
theorem k94_108 : lkc 108 (kcode 94) = some (.iconst (-1)) := by decide +kernel
theorem k94_109 : lkc 109 (kcode 94) = some (.ixor) := by decide +kernel
theorem k94_110 : lkc 110 (kcode 94) = some (.iand) := by decide +kernel
theorem k94_111 : lkc 111 (kcode 94) = some (.istore 4) := by decide +kernel
theorem k94_113 : lkc 113 (kcode 94) = some (.iload 7) := by decide +kernel
theorem k94_115 : lkc 115 (kcode 94) = some (.istore 5) := by decide +kernel
theorem k94_117 : lkc 117 (kcode 94) = some (.iinc 6 1) := by decide +kernel
theorem k94_120 : lkc 120 (kcode 94) = some (.goto (-91)) := by decide +kernel
theorem k94_123 : lkc 123 (kcode 94) = some (.iload_n 3) := by decide +kernel
theorem k94_124 : lkc 124 (kcode 94) = some (.ireturn) := by decide +kernel
theorem k132_0 : lkc 0 (kcode 132) = some (.aload_n 0) := by decide +kernel
theorem k132_1 : lkc 1 (kcode 132) = some (.iload_n 1) := by decide +kernel
theorem k132_2 : lkc 2 (kcode 132) = some (.invokevirtual 159) := by decide +kernel
theorem k132_5 : lkc 5 (kcode 132) = some (.ifCond .eq 12) := by decide +kernel
theorem k132_8 : lkc 8 (kcode 132) = some (.iload_n 2) := by decide +kernel
theorem k132_9 : lkc 9 (kcode 132) = some (.ifCond .lt 8) := by decide +kernel
theorem k132_12 : lkc 12 (kcode 132) = some (.iload_n 2) := by decide +kernel
theorem k132_13 : lkc 13 (kcode 132) = some (.iconst 1) := by decide +kernel
theorem k132_14 : lkc 14 (kcode 132) = some (.if_icmp .le 5) := by decide +kernel
theorem k132_17 : lkc 17 (kcode 132) = some (.iconst (-1)) := by decide +kernel
theorem k132_18 : lkc 18 (kcode 132) = some (.ireturn) := by decide +kernel
theorem k132_19 : lkc 19 (kcode 132) = some (.aload_n 0) := by decide +kernel
theorem k132_20 : lkc 20 (kcode 132) = some (.getfield 61) := by decide +kernel
theorem k132_23 : lkc 23 (kcode 132) = some (.aload_n 0) := by decide +kernel
theorem k132_24 : lkc 24 (kcode 132) = some (.getfield 75) := by decide +kernel
theorem k132_27 : lkc 27 (kcode 132) = some (.invokevirtual 253) := by decide +kernel
theorem k132_30 : lkc 30 (kcode 132) = some (.aload_n 0) := by decide +kernel
theorem k132_31 : lkc 31 (kcode 132) = some (.getfield 61) := by decide +kernel
theorem k132_34 : lkc 34 (kcode 132) = some (.getfield 309) := by decide +kernel
theorem k132_37 : lkc 37 (kcode 132) = some (.istore_n 3) := by decide +kernel
theorem k132_38 : lkc 38 (kcode 132) = some (.iload_n 3) := by decide +kernel
theorem k132_39 : lkc 39 (kcode 132) = some (.ifCond .ne 13) := by decide +kernel
theorem k132_42 : lkc 42 (kcode 132) = some (.iload_n 2) := by decide +kernel
theorem k132_43 : lkc 43 (kcode 132) = some (.ifCond .ne 7) := by decide +kernel
theorem k132_46 : lkc 46 (kcode 132) = some (.iconst 0) := by decide +kernel
theorem k132_47 : lkc 47 (kcode 132) = some (.goto 4) := by decide +kernel
theorem k132_50 : lkc 50 (kcode 132) = some (.iconst (-1)) := by decide +kernel
theorem k132_51 : lkc 51 (kcode 132) = some (.ireturn) := by decide +kernel
theorem k132_52 : lkc 52 (kcode 132) = some (.iload_n 3) := by decide +kernel
theorem k132_53 : lkc 53 (kcode 132) = some (.aload_n 0) := by decide +kernel
theorem k132_54 : lkc 54 (kcode 132) = some (.getfield 19) := by decide +kernel
theorem k132_57 : lkc 57 (kcode 132) = some (.iload_n 1) := by decide +kernel
theorem k132_58 : lkc 58 (kcode 132) = some (.aload_n 0) := by decide +kernel
theorem k132_59 : lkc 59 (kcode 132) = some (.invokevirtual 170) := by decide +kernel
theorem k132_62 : lkc 62 (kcode 132) = some (.invokevirtual 322) := by decide +kernel
theorem k132_65 : lkc 65 (kcode 132) = some (.iconst (-1)) := by decide +kernel
theorem k132_66 : lkc 66 (kcode 132) = some (.ixor) := by decide +kernel
theorem k132_67 : lkc 67 (kcode 132) = some (.iand) := by decide +kernel
theorem k132_68 : lkc 68 (kcode 132) = some (.ifCond .eq 5) := by decide +kernel
theorem k132_71 : lkc 71 (kcode 132) = some (.iconst (-1)) := by decide +kernel
theorem k132_72 : lkc 72 (kcode 132) = some (.ireturn) := by decide +kernel
theorem k132_73 : lkc 73 (kcode 132) = some (.aload_n 0) := by decide +kernel
theorem k132_74 : lkc 74 (kcode 132) = some (.getfield 52) := by decide +kernel
theorem k132_77 : lkc 77 (kcode 132) = some (.iload_n 3) := by decide +kernel
theorem k132_78 : lkc 78 (kcode 132) = some (.invokevirtual 325) := by decide +kernel
theorem k132_81 : lkc 81 (kcode 132) = some (.iload_n 2) := by decide +kernel
theorem k132_82 : lkc 82 (kcode 132) = some (.ifCond .ne 15) := by decide +kernel
theorem k132_85 : lkc 85 (kcode 132) = some (.aload_n 0) := by decide +kernel
theorem k132_86 : lkc 86 (kcode 132) = some (.getfield 52) := by decide +kernel
theorem k132_89 : lkc 89 (kcode 132) = some (.iload_n 1) := by decide +kernel
theorem k132_90 : lkc 90 (kcode 132) = some (.iload_n 3) := by decide +kernel
theorem k132_91 : lkc 91 (kcode 132) = some (.invokevirtual 328) := by decide +kernel
theorem k132_94 : lkc 94 (kcode 132) = some (.goto 12) := by decide +kernel
theorem k132_97 : lkc 97 (kcode 132) = some (.aload_n 0) := by decide +kernel
theorem k132_98 : lkc 98 (kcode 132) = some (.getfield 52) := by decide +kernel
theorem k132_101 : lkc 101 (kcode 132) = some (.iload_n 1) := by decide +kernel
theorem k132_102 : lkc 102 (kcode 132) = some (.iload_n 3) := by decide +kernel
theorem k132_103 : lkc 103 (kcode 132) = some (.invokevirtual 331) := by decide +kernel
theorem k132_106 : lkc 106 (kcode 132) = some (.ireturn) := by decide +kernel
/-! forward: the row of the feast -/
def tbA (m : xM) (C : Nat) (D : Mt) (ch : Nat) : Prop := ∀ left a, left < 256 → subS9 left ch → a < C → tbC m C D left a
theorem c_feastYards {m : xM} {a ch : Nat} (hr : rS m) (ha : a < 8) (hl : ch < 256) : fC 93 [.ref 63, .int (nI a), .int (nI ch)] m (fun rv m' => rv = some (.int (m.1 82 (8 * rmB ch a + a))) ∧ m = m') := by
  refine fC_of (by decide) (fun d n P H => ?_)
  replace H := f_aload_n H k93_0 rfl
  replace H := f_iload_n H k93_1 rfl
  replace H := f_iload_n H k93_2 rfl
  replace H := f_iconst H k93_3 (v := 1) (by decide)
  replace H := f_iload_n H k93_4 rfl
  replace H := f_ishl H k93_5
  replace H := f_iconst H k93_6 (v := -1) (by decide)
  replace H := f_ixor H k93_7
  replace H := f_iand H k93_8
  rw [shl_n (by omega), rmB_n] at H
  obtain ⟨rv, m3, ⟨rfl, e3⟩, h9_9⟩ := f_inv H k93_9 (by decide +kernel) (as := [.int _, .int _]) (b := 63) (r := []) (by rfl) (c_feastOf hr ha (rmB_lt (k := 8) hl))
  replace H := h9_9
  rw [← e3] at H
  clear e3
  replace H := f_iret H k93_12
  exact ⟨_, _, H, rfl, rfl⟩
theorem pw_c (r e k : Nat) (he : e < 10) : (10 * r + e + 1) * 10 ^ k ≤ (r + 1) * 10 ^ (k + 1) := by
  have p3 : (10 * r + e + 1) * 10 ^ k ≤ (10 * (r + 1)) * 10 ^ k := Nat.mul_le_mul_right _ (by omega)
  rw [Nat.pow_succ, Nat.mul_comm (10 ^ k) 10, ← Nat.mul_assoc, Nat.mul_comm (r + 1) 10]
  exact p3
theorem pw_r {r k : Nat} (h : (r + 1) * 10 ^ k ≤ 100000000) : r < 100000000 := by
  have p1 : 1 ≤ 10 ^ k := Nat.one_le_pow _ _ (by decide)
  have p2 : (r + 1) * 1 ≤ (r + 1) * 10 ^ k := Nat.mul_le_mul_left _ p1
  omega
set_option maxHeartbeats 2000000 in
theorem c_feastRow {m : xM} {C a ch r0 : Nat} {T X D : Mt} {l0 : List Nat} (hr : rS m) (hC8 : C ≤ 8) (hX : mX m C T X) (hXb : mle 1000000 X) (h16 : ∀ a b, a < C → b < C → (X a b < 1000000 ↔ D a b < 100000) ∧ (X a b < 1000000 → X a b / 16 = D a b)) (ha : a < C) (hch : ch < 256) (ht : tbA m C D ch) (hg0 : gfL C D a (rmB ch a) l0) (hr0 : r0 = if ch.testBit a = true then a else 0) : fC 94 [.ref 63, .int (nI a), .int (nI ch)] m (fun rv m' => rv = some (.int (nI (rowL r0 l0))) ∧ m = m') := by
  refine fC_of (by decide) (fun d n9 P H => ?_)
  have hlen := feL_len l0 a _ (gfL_ok hC8 l0 a _ hg0).1
  have hpc := pcv_le (rmB ch a) C
  have lp : ∀ n9 i here left r l v7, here < C → left < 256 → subS9 left ch → gfL C D here left l → i + l.length ≤ C → (r + 1) * 10 ^ l.length ≤ 100000000 → rowL r l = rowL r0 l0 → xF 94 (xw d) P n9 29 [(6, .int (nI i)), (5, .int (nI here)), (4, .int (nI left)), (3, .int (nI r)), (0, .ref 63), (1, .int (nI a)), (2, .int (nI ch)), (7, .int v7)] [] m → ∃ rv m', P rv m' ∧ rv = some (.int (nI (rowL r0 l0))) ∧ m = m' := by
    intro n9
    induction n9 with
    | zero => exact fun i here left r l v7 _ _ _ _ _ _ _ H => (xF_0 H).elim
    | succ n9 ih =>
      intro i here left r l v7 hh hl hs hg hi hr9 he H
      have fin : l = [] → xF 94 (xw d) P n9 123 [(6, .int (nI i)), (5, .int (nI here)), (4, .int (nI left)), (3, .int (nI r)), (0, .ref 63), (1, .int (nI a)), (2, .int (nI ch)), (7, .int v7)] [] m → ∃ rv m', P rv m' ∧ rv = some (.int (nI (rowL r0 l0))) ∧ m = m' := by
        intro e0 H
        rw [e0] at he
        have he : r = rowL r0 l0 := he
        replace H := f_iload_n H k94_123 rfl
        replace H := f_iret H k94_124
        exact ⟨_, _, H, by rw [he], rfl⟩
      replace H := f1_iload H k94_29 rfl
      replace H := f_aload_n H k94_31 rfl
      replace H := f_gi H k94_32 (ci := 10) (f := 3) (by decide +kernel) (by decide)
      rw [hX.1] at H
      have Hbr := f_icmp_ge H k94_35 (t := 123) (by decide)
      clear H
      rcases Hbr with ⟨c0, H⟩ | ⟨c0, H⟩
      · rw [nxle (by omega) (by omega)] at c0
        exact fin (List.eq_nil_of_length_eq_zero (by omega)) H
      · rw [nxle (by omega) (by omega)] at c0
        replace H := f_iload H k94_38 rfl
        have Hbr := f_if_eq H k94_40 (t := 123) (by decide)
        clear H
        rcases Hbr with ⟨c1, H⟩ | ⟨c1, H⟩
        · rw [show (0 : Int32) = nI 0 from rfl, nI_inj (by omega) (by omega)] at c1
          refine fin ?_ H
          cases l with
          | nil => rfl
          | cons c l =>
            have := hg.1
            rw [c1, Nat.zero_testBit] at this
            cases this
        · rw [show (0 : Int32) = nI 0 from rfl, nI_inj (by omega) (by omega)] at c1
          cases l with
          | nil => exact absurd hg c1
          | cons c l =>
            obtain ⟨g1, g2, g3, g4, g5⟩ := id hg
            have hex := (gfL_ok hC8 _ _ _ hg).1
            rw [List.length_cons] at hi hr9
            have kk : xF 94 (xw d) P n9 94 [(7, .int (nI c)), (6, .int (nI i)), (5, .int (nI here)), (4, .int (nI left)), (3, .int (nI r)), (0, .ref 63), (1, .int (nI a)), (2, .int (nI ch))] [] m → ∃ rv m', P rv m' ∧ rv = some (.int (nI (rowL r0 l0))) ∧ m = m' := by
              intro H
              have p1 := pw_c r c l.length (by omega)
              replace H := f_iload_n H k94_94 rfl
              replace H := f_bipush H k94_95 (v := 10) (by decide)
              replace H := f_imul H k94_97
              replace H := f_iload H k94_98 rfl
              replace H := f_iadd H k94_100
              rw [show (10 : Int32) = nI 10 from rfl, nI_mul, r_ad, show r * 10 + c = 10 * r + c by omega] at H
              replace H := f_istore_n H k94_101 (l2 := [(3, .int (nI (10 * r + c))), (7, .int (nI c)), (6, .int (nI i)), (5, .int (nI here)), (4, .int (nI left)), (0, .ref 63), (1, .int (nI a)), (2, .int (nI ch))]) rfl
              replace H := f_iload H k94_102 rfl
              replace H := f_iconst H k94_104 (v := 1) (by decide)
              replace H := f_iload H k94_105 rfl
              replace H := f_ishl H k94_107
              replace H := f_iconst H k94_108 (v := -1) (by decide)
              replace H := f_ixor H k94_109
              replace H := f_iand H k94_110
              rw [shl_n (by omega), rmB_n] at H
              replace H := f_istore H k94_111 (l2 := [(4, .int (nI (rmB left c))), (3, .int (nI (10 * r + c))), (7, .int (nI c)), (6, .int (nI i)), (5, .int (nI here)), (0, .ref 63), (1, .int (nI a)), (2, .int (nI ch))]) rfl
              replace H := f_iload H k94_113 rfl
              replace H := f_istore H k94_115 (l2 := [(5, .int (nI c)), (4, .int (nI (rmB left c))), (3, .int (nI (10 * r + c))), (7, .int (nI c)), (6, .int (nI i)), (0, .ref 63), (1, .int (nI a)), (2, .int (nI ch))]) rfl
              replace H := f_iinc H k94_117 rfl (l2 := [(6, .int (nI i + 1)), (5, .int (nI c)), (4, .int (nI (rmB left c))), (3, .int (nI (10 * r + c))), (7, .int (nI c)), (0, .ref 63), (1, .int (nI a)), (2, .int (nI ch))]) rfl
              replace H := f_goto H k94_120 (t := 29) (by decide)
              rw [nI_s] at H
              replace H := f_ext H (l' := [(6, .int (nI (i + 1))), (5, .int (nI c)), (4, .int (nI (rmB left c))), (3, .int (nI (10 * r + c))), (0, .ref 63), (1, .int (nI a)), (2, .int (nI ch)), (7, .int (nI c))]) (lE_cons rfl (lE_cons rfl (lE_cons rfl (lE_cons rfl (lE_cons rfl (lE_cons rfl (lE_cons rfl (lE_cons rfl (lE_nil))))))))) rfl rfl
              exact ih (i + 1) c (rmB left c) (10 * r + c) l _ g2 (rmB_lt (k := 8) hl) (fun j hj => hs j (rmB_in hj).1) g5 (by omega) (by omega) he H
            obtain ⟨F, f1, f2⟩ := ht left here hl hs hh
            have inn : ∀ N e, N ≤ n9 → e ≤ c → xF 94 (xw d) P N 46 [(7, .int (nI e)), (6, .int (nI i)), (5, .int (nI here)), (4, .int (nI left)), (3, .int (nI r)), (0, .ref 63), (1, .int (nI a)), (2, .int (nI ch))] [] m → ∃ rv m', P rv m' ∧ rv = some (.int (nI (rowL r0 l0))) ∧ m = m' := by
              intro N
              induction N with
              | zero => exact fun e _ _ H => (xF_0 H).elim
              | succ N ih2 =>
                intro e hN hec H
                have nxt : e ≠ c → xF 94 (xw d) P N 88 [(7, .int (nI e)), (6, .int (nI i)), (5, .int (nI here)), (4, .int (nI left)), (3, .int (nI r)), (0, .ref 63), (1, .int (nI a)), (2, .int (nI ch))] [] m → ∃ rv m', P rv m' ∧ rv = some (.int (nI (rowL r0 l0))) ∧ m = m' := by
                  intro hne H
                  replace H := f_iinc H k94_88 rfl (l2 := [(7, .int (nI e + 1)), (6, .int (nI i)), (5, .int (nI here)), (4, .int (nI left)), (3, .int (nI r)), (0, .ref 63), (1, .int (nI a)), (2, .int (nI ch))]) rfl
                  replace H := f_goto H k94_91 (t := 46) (by decide)
                  rw [nI_s] at H
                  exact ih2 (e + 1) (by omega) (by omega) H
                replace H := f1_iload H k94_46 rfl
                replace H := f_aload_n H k94_48 rfl
                replace H := f_gi H k94_49 (ci := 10) (f := 3) (by decide +kernel) (by decide)
                replace H := f_iconst H k94_52 (v := 1) (by decide)
                replace H := f_isub H k94_53
                rw [hX.1, show (1 : Int32) = nI 1 from rfl, nI_sub (by omega) (by omega)] at H
                have Hbr := f_icmp_ge H k94_54 (t := 94) (by decide)
                clear H
                rcases Hbr with ⟨c2, H⟩ | ⟨c2, H⟩
                · rw [nxle (by omega) (by omega)] at c2
                  rw [show e = c by omega] at H
                  exact kk (f_up H (by omega))
                · rw [nxle (by omega) (by omega)] at c2
                  replace H := f_iload H k94_57 rfl
                  replace H := f_iload H k94_59 rfl
                  replace H := f_ishr H k94_61
                  replace H := f_iconst H k94_62 (v := 1) (by decide)
                  replace H := f_iand H k94_63
                  rw [has_n (by omega) (by omega)] at H
                  cases hb : left.testBit e with
                  | false =>
                    rw [hb] at H
                    replace H := f_if_eq_t H k94_64 rfl (t := 88) (by decide)
                    exact nxt (fun q => by rw [q, g1] at hb; cases hb) H
                  | true =>
                    rw [hb] at H
                    obtain ⟨G, G1, G2⟩ := ht (rmB left e) e (rmB_lt (k := 8) hl) (fun j hj => hs j (rmB_in hj).1) (by omega)
                    have hy := ynM_of (a := here) hb (show e < C by omega) G1
                    have hiff := nxF_iff hC8 ⟨_, hex⟩ f1 hy
                    have hy6 := hy.1
                    have hF6 := f1.1
                    replace H := f_if_eq_f H k94_64 (by decide)
                    replace H := f_aload_n H k94_67 rfl
                    replace H := f_iload H k94_68 rfl
                    replace H := f_iload H k94_70 rfl
                    replace H := f_iload H k94_72 rfl
                    obtain ⟨rv, m3, ⟨rfl, e3⟩, h9_74⟩ := f_inv H k94_74 (by decide +kernel) (as := [.int _, .int _, .int _]) (b := 63) (r := []) (by rfl) (c_yardsBy hr hC8 hX hXb h16 hh (by omega) hl G2 G1.1)
                    replace H := h9_74
                    rw [← e3] at H
                    clear e3
                    replace H := f_aload_n H k94_77 rfl
                    replace H := f_iload H k94_78 rfl
                    replace H := f_iload H k94_80 rfl
                    obtain ⟨rv, m4, ⟨rfl, e3⟩, h9_82⟩ := f_inv H k94_82 (by decide +kernel) (as := [.int _, .int _]) (b := 63) (r := [.int _]) (by rfl) (c_feastOf hr (by omega) hl)
                    replace H := h9_82
                    rw [← e3, f2] at H
                    clear e3
                    have Hbr := f_icmp_eq H k94_85 (t := 94) (by decide)
                    clear H
                    rcases Hbr with ⟨c3, H⟩ | ⟨c3, H⟩
                    · rw [nI_inj (by omega) (by omega)] at c3
                      have hx := hiff.mp c3
                      have ee : e = c := by
                        rcases Nat.lt_or_ge e c with q | q
                        · exact absurd hx (g4 e q)
                        · omega
                      rw [ee] at H
                      exact kk (f_up H (by omega))
                    · rw [nI_inj (by omega) (by omega)] at c3
                      exact nxt (fun q => c3 (hiff.mpr (by rw [q]; exact g3))) H
            replace H := f_iconst H k94_43 (v := 0) (by decide)
            replace H := f_istore H k94_44 (l2 := [(7, .int 0), (6, .int (nI i)), (5, .int (nI here)), (4, .int (nI left)), (3, .int (nI r)), (0, .ref 63), (1, .int (nI a)), (2, .int (nI ch))]) rfl
            replace H := f_ext H (l' := [(7, .int (nI 0)), (6, .int (nI i)), (5, .int (nI here)), (4, .int (nI left)), (3, .int (nI r)), (0, .ref 63), (1, .int (nI a)), (2, .int (nI ch))]) (lE_cons rfl (lE_cons rfl (lE_cons rfl (lE_cons rfl (lE_cons rfl (lE_cons rfl (lE_cons rfl (lE_cons rfl (lE_nil))))))))) rfl rfl
            exact inn _ 0 (Nat.le_refl _) (Nat.zero_le _) H
  have beg : ∀ n9 v, v = nI r0 → xF 94 (xw d) P n9 13 [(0, .ref 63), (1, .int (nI a)), (2, .int (nI ch))] [.int v] m → (r0 + 1) * 10 ^ l0.length ≤ 100000000 → ∃ rv m', P rv m' ∧ rv = some (.int (nI (rowL r0 l0))) ∧ m = m' := by
    intro n9 v ev H hb9
    rw [ev] at H
    replace H := f_istore_n H k94_13 (l2 := [(3, .int (nI r0)), (0, .ref 63), (1, .int (nI a)), (2, .int (nI ch))]) rfl
    replace H := f_iload_n H k94_14 rfl
    replace H := f_iconst H k94_15 (v := 1) (by decide)
    replace H := f_iload_n H k94_16 rfl
    replace H := f_ishl H k94_17
    replace H := f_iconst H k94_18 (v := -1) (by decide)
    replace H := f_ixor H k94_19
    replace H := f_iand H k94_20
    rw [shl_n (by omega), rmB_n] at H
    replace H := f_istore H k94_21 (l2 := [(4, .int (nI (rmB ch a))), (3, .int (nI r0)), (0, .ref 63), (1, .int (nI a)), (2, .int (nI ch))]) rfl
    replace H := f_iload_n H k94_23 rfl
    replace H := f_istore H k94_24 (l2 := [(5, .int (nI a)), (4, .int (nI (rmB ch a))), (3, .int (nI r0)), (0, .ref 63), (1, .int (nI a)), (2, .int (nI ch))]) rfl
    replace H := f_iconst H k94_26 (v := 0) (by decide)
    replace H := f_istore H k94_27 (l2 := [(6, .int 0), (5, .int (nI a)), (4, .int (nI (rmB ch a))), (3, .int (nI r0)), (0, .ref 63), (1, .int (nI a)), (2, .int (nI ch))]) rfl
    replace H := f_ext H (l' := [(6, .int (nI 0)), (5, .int (nI a)), (4, .int (nI (rmB ch a))), (3, .int (nI r0)), (0, .ref 63), (1, .int (nI a)), (2, .int (nI ch)), (7, .int 0)]) (lE_cons rfl (lE_cons rfl (lE_cons rfl (lE_cons rfl (lE_cons rfl (lE_cons rfl (lE_cons rfl (lE_nil)))))))) rfl rfl
    exact lp _ 0 a (rmB ch a) r0 l0 0 ha (rmB_lt (k := 8) hch) (fun i hi => (rmB_in hi).1) hg0 (by omega) hb9 rfl H
  have p8 : ∀ k, k ≤ 8 → (10 : Nat) ^ k ≤ 10 ^ 8 := fun k hk => Nat.pow_le_pow_right (by decide) hk
  have p7 : ∀ k, k ≤ 7 → (10 : Nat) ^ k ≤ 10 ^ 7 := fun k hk => Nat.pow_le_pow_right (by decide) hk
  replace H := f_iload_n H k94_0 rfl
  replace H := f_iload_n H k94_1 rfl
  replace H := f_ishr H k94_2
  replace H := f_iconst H k94_3 (v := 1) (by decide)
  replace H := f_iand H k94_4
  rw [has_n (by omega) (by omega)] at H
  cases hb : ch.testBit a with
  | true =>
    rw [hb] at H
    rw [hb, if_pos rfl] at hr0
    have e := pcv_rm ha hb
    have := pcv_le ch C
    have q7 := p7 l0.length (by omega)
    have q8 : (a + 1) * 10 ^ l0.length ≤ 8 * 10 ^ 7 := Nat.mul_le_mul (by omega) q7
    replace H := f_if_eq_f H k94_5 (by decide)
    replace H := f_iload_n H k94_8 rfl
    replace H := f_goto H k94_9 (t := 13) (by decide)
    exact beg _ _ (by rw [hr0]) H (by rw [hr0]; omega)
  | false =>
    rw [hb] at H
    rw [hb, if_neg (by decide)] at hr0
    have q8 := p8 l0.length (by omega)
    replace H := f_if_eq_t H k94_5 rfl (t := 12) (by decide)
    replace H := f_iconst H k94_12 (v := 0) (by decide)
    exact beg _ 0 (by rw [hr0]; rfl) H (by rw [hr0]; omega)
set_option maxHeartbeats 2000000 in
theorem c_feast {m : xM} {C S w : Nat} {A B Y : Nat → Nat} {z y : Int32} (hI : gI tS tR m) (hT : xT m C S A B Y) (hw : m.1 89 0 = nI w) (hw2 : w < 65536) : fC 132 [.ref 0, .int z, .int y] m (fun rv m' => ∃ v, rv = some (.int v) ∧ fsV C (wyM C S A B Y w) (chp A B S w C) z y v) := by
  refine fC_of (by decide) (fun d n P H => ?_)
  have hr : rS m := hI.2
  have hC8 : C ≤ 8 := hT.2.2.1
  have hS12 : S ≤ 12 := hT.2.2.2.1
  have hSt := xT_st hT
  have hab := xT_ab hT
  have neg : ∀ n, ¬ ((∃ a, a < C ∧ z = nI a) ∧ ∃ q, q < 2 ∧ y = nI q) → xF 132 (xw d) P n 17 [(0, .ref 0), (1, .int z), (2, .int y)] [] m → ∃ rv m', P rv m' ∧ ∃ v, rv = some (.int v) ∧ fsV C (wyM C S A B Y w) (chp A B S w C) z y v := by
    intro n hn H
    replace H := f_iconst H k132_17 (v := -1) (by decide)
    replace H := f_iret H k132_18
    exact ⟨_, _, H, _, rfl, Or.inr ⟨hn, rfl⟩⟩
  replace H := f_aload_n H k132_0 rfl
  replace H := f_iload_n H k132_1 rfl
  obtain ⟨rv, m3, ⟨ho1, e3⟩, h9_2⟩ := f_inv H k132_2 (by decide +kernel) (as := [.int _]) (b := 0) (r := []) (by rfl) (c_isCornerN hr hT.1 (by omega))
  replace H := h9_2
  rw [← e3] at H
  clear e3
  rcases ho1 with ⟨a, ha, hza, rfl⟩ | ⟨h0, rfl⟩
  case inr =>
    replace H := f_if_eq_t H k132_5 rfl (t := 17) (by decide)
    exact neg _ (fun h => by
      obtain ⟨⟨b, hb, e⟩, -⟩ := h
      exact h0 b hb e) H
  subst hza
  replace H := f_if_eq_f H k132_5 (by decide)
  replace H := f_iload_n H k132_8 rfl
  have Hbr := f_if_lt H k132_9 (t := 17) (by decide)
  clear H
  rcases Hbr with ⟨a3, H⟩ | ⟨a3, H⟩
  · rw [Int32.lt_iff_toInt_lt, show (0 : Int32).toInt = 0 by decide] at a3
    exact neg _ (fun ⟨_, q, hq, e⟩ => by rw [e, nI_toInt (by omega)] at a3; omega) H
  rw [Int32.lt_iff_toInt_lt, show (0 : Int32).toInt = 0 by decide] at a3
  replace H := f_iload_n H k132_12 rfl
  replace H := f_iconst H k132_13 (v := 1) (by decide)
  have Hbr := f_icmp_le H k132_14 (t := 19) (by decide)
  clear H
  rcases Hbr with ⟨a4, H⟩ | ⟨a4, H⟩
  case inr =>
    rw [Int32.le_iff_toInt_le, show (1 : Int32).toInt = 1 by decide] at a4
    exact neg _ (fun ⟨_, q, hq, e⟩ => by rw [e, nI_toInt (by omega)] at a4; omega) H
  rw [Int32.le_iff_toInt_le, show (1 : Int32).toInt = 1 by decide] at a4
  obtain ⟨q, hq, rfl⟩ := i_rng (x := y) (L := 1) (by omega) (by omega) (by decide)
  clear neg
  have hch : chp A B S w C < 256 := Nat.lt_of_lt_of_le (chp_lt C) (p2_8 hC8)
  obtain ⟨ch, hce⟩ : ∃ ch, ch = chp A B S w C := ⟨_, rfl⟩
  obtain ⟨D, hD⟩ : ∃ D, D = wyM C S A B Y w := ⟨_, rfl⟩
  have wrap : ∀ v, ((ch = 0 ∧ v = if q = 0 then 0 else -1) ∨ (ch ≠ 0 ∧ (¬ ∃ l, feL C D a (rmB ch a) l) ∧ v = -1) ∨ (ch ≠ 0 ∧ ∃ l, fsB C D a (rmB ch a) l ∧ v = if q = 0 then nI (dwk D a l) else nI (rowL (if ch.testBit a = true then a else 0) l))) → fsV C (wyM C S A B Y w) (chp A B S w C) (nI a) (nI q) v := fun v h => by
    rw [← hD, ← hce]
    exact Or.inl ⟨a, q, ha, by omega, rfl, rfl, h⟩
  have hfe : feH C D := by rw [hD]; exact feH_ok hC8 hSt
  have hrc : ∀ v, (rcF A B S w a).testBit v = true ↔ v < C ∧ D a v < 100000 := fun v => by rw [hD]; exact rc_iff hC8 hSt hab ha
  have h16 : ∀ a b, a < C → b < C → (wyX C S A B Y w a b < 1000000 ↔ D a b < 100000) ∧ (wyX C S A B Y w a b < 1000000 → wyX C S A B Y w a b / 16 = D a b) := fun a b ha hb => by rw [hD]; exact ⟨wy_R hC8 hSt a b, wy_16 hC8 hSt ha hb⟩
  replace H := f_aload_n H k132_19 rfl
  replace H := f_gr H k132_20 (ci := 11) (f := 7) (x := 83) (by decide +kernel) (by decide) (hr 0 7 83 rfl)
  replace H := f_aload_n H k132_23 rfl
  replace H := f_gr H k132_24 (ci := 11) (f := 9) (x := 89) (by decide +kernel) (by decide) (hr 0 9 89 rfl)
  obtain ⟨rv, m5, ⟨⟨rfl, f1, h3, hX⟩, hI5, -⟩, h9_27⟩ := f_inv H k132_27 (by decide +kernel) (as := [.ref 89]) (b := 83) (r := []) (by rfl) (fC_two (c_lookAt hr hT hw hw2) (fC_vC q171 hI jTok ⟨aR_a 83, aR_a 89, trivial⟩ gF_nil))
  replace H := h9_27
  have hr : rS m5 := hI5.2
  have hT5 : xT m5 C S A B Y := xT_f hT (fun a i h1 h2 => f1 a i (by omega) (by omega) (by omega))
  have hw5 : m5.1 89 0 = nI w := by rw [f1 89 0 (by omega) (by omega) (by omega)]; exact hw
  rw [← hce] at h3 hch
  replace H := f_aload_n H k132_30 rfl
  replace H := f_gr H k132_31 (ci := 11) (f := 7) (x := 83) (by decide +kernel) (by decide) (hr 0 7 83 rfl)
  replace H := f_gi H k132_34 (ci := 1) (f := 3) (by decide +kernel) (by decide)
  rw [h3] at H
  replace H := f_istore_n H k132_37 (l2 := [(3, .int (nI ch)), (0, .ref 0), (1, .int (nI a)), (2, .int (nI q))]) rfl
  replace H := f_iload_n H k132_38 rfl
  have Hbr := f_if_ne H k132_39 (t := 52) (by decide)
  clear H
  rcases Hbr with ⟨c0, H⟩ | ⟨c0, H⟩
  case inr =>
    rw [show (0 : Int32) = nI 0 from rfl, nI_inj (by omega) (by omega)] at c0
    replace H := f_iload_n H k132_42 rfl
    by_cases q0 : q = 0
    · replace H := f_if_ne_f H k132_43 (by rw [q0]; rfl)
      replace H := f_iconst H k132_46 (v := 0) (by decide)
      replace H := f_goto H k132_47 (t := 51) (by decide)
      replace H := f_iret H k132_51
      exact ⟨_, _, H, _, rfl, wrap _ (Or.inl ⟨c0, by rw [if_pos q0]⟩)⟩
    · replace H := f_if_ne_t H k132_43 (by rw [show (0 : Int32) = nI 0 from rfl, nI_inj (by omega) (by omega)]; exact q0) (t := 50) (by decide)
      replace H := f_iconst H k132_50 (v := -1) (by decide)
      replace H := f_iret H k132_51
      exact ⟨_, _, H, _, rfl, wrap _ (Or.inl ⟨c0, by rw [if_neg q0]⟩)⟩
  rw [show (0 : Int32) = nI 0 from rfl, nI_inj (by omega) (by omega)] at c0
  replace H := f_iload_n H k132_52 rfl
  replace H := f_aload_n H k132_53 rfl
  replace H := f_gr H k132_54 (ci := 11) (f := 1) (x := 3) (by decide +kernel) (by decide) (hr 0 1 3 rfl)
  replace H := f_iload_n H k132_57 rfl
  replace H := f_aload_n H k132_58 rfl
  obtain ⟨rv, m6, ⟨rfl, e3⟩, h9_59⟩ := f_inv H k132_59 (by decide +kernel) (as := []) (b := 0) (r := [.int _, .ref 3, .int _]) (by rfl) (c_openNow hr hT5 hw5)
  replace H := h9_59
  rw [← e3] at H
  clear e3
  obtain ⟨rv, m7, ⟨rfl, e3⟩, h9_62⟩ := f_inv H k132_62 (by decide +kernel) (as := [.int _, .int _]) (b := 3) (r := [.int _]) (by rfl) (c_reachedFrom hr hT5 opb_o (opb_65 hS12) ha)
  replace H := h9_62
  rw [← e3] at H
  clear e3
  replace H := f_iconst H k132_65 (v := -1) (by decide)
  replace H := f_ixor H k132_66
  replace H := f_iand H k132_67
  by_cases hs : subS9 ch (rcF A B S w a)
  case neg =>
    replace H := f_if_eq_f H k132_68 (fun w9 => hs ((sub_b hch).mp w9))
    replace H := f_iconst H k132_71 (v := -1) (by decide)
    replace H := f_iret H k132_72
    refine ⟨_, _, H, _, rfl, wrap _ (Or.inr (Or.inl ⟨c0, fun ⟨l, hl⟩ => hs (fun v hv => (hrc v).mpr ?_), rfl⟩))⟩
    by_cases e : a = v
    · rw [← e]
      have z := ((wyH_ok (w := w) hC8 hSt).2.2.2.1 a).2
      exact ⟨ha, by rw [hD]; omega⟩
    · exact fe_all hfe l a _ ha hl v (rmB_to hv e)
  replace H := f_if_eq_t H k132_68 ((sub_b hch).mpr hs) (t := 73) (by decide)
  have hex : ∃ l, feL C D a (rmB ch a) l := fe_ex hfe _ a _ ha rfl (fun v hv => (hrc v).mp (hs v (rmB_in hv).1))
  obtain ⟨l1, hl1⟩ := id hex
  obtain ⟨l, hgl⟩ := gfL_ex _ a _ ⟨l1, hl1, rfl⟩
  have hfb := fsB_g hC8 hgl
  replace H := f_aload_n H k132_73 rfl
  replace H := f_gr H k132_74 (ci := 11) (f := 6) (x := 63) (by decide +kernel) (by decide) (hr 0 6 63 rfl)
  replace H := f_iload_n H k132_77 rfl
  obtain ⟨rv, m8, ⟨rfl, hf8, ht8⟩, h9_78⟩ := f_inv H k132_78 (by decide +kernel) (as := [.int _]) (b := 63) (r := []) (by rfl) (c_planFeast hr hC8 hX (fwO_le (wsX_le hSt) C) h16 hch)
  replace H := h9_78
  have hr : rS m8 := frF_r hf8 hr
  have hX8 := frF_X hC8 hf8 hX
  replace H := f_iload_n H k132_81 rfl
  by_cases q0 : q = 0
  · obtain ⟨v, v1, v2⟩ := ht8 (rmB ch a) a (rmB_lt (k := 8) hch) (fun i hi => (rmB_in hi).1) ha
    have ev : v = dwk D a l := by
      have b0 := feL_6 hC8 hl1
      have b1 := v1.2.1 l1 hl1
      have b2 := v1.2.1 l hfb.1
      rcases v1.2.2 with z | ⟨k, k1, k2⟩
      · omega
      · rcases hfb.2 k k1 with p | ⟨p, -⟩ <;> omega
    replace H := f_if_ne_f H k132_82 (by rw [q0]; rfl)
    replace H := f_aload_n H k132_85 rfl
    replace H := f_gr H k132_86 (ci := 11) (f := 6) (x := 63) (by decide +kernel) (by decide) (hr 0 6 63 rfl)
    replace H := f_iload_n H k132_89 rfl
    replace H := f_iload_n H k132_90 rfl
    obtain ⟨rv, m9, ⟨rfl, e3⟩, h9_91⟩ := f_inv H k132_91 (by decide +kernel) (as := [.int _, .int _]) (b := 63) (r := []) (by rfl) (c_feastYards hr (by omega) hch)
    replace H := h9_91
    rw [← e3, v2, ev] at H
    replace H := f_goto H k132_94 (t := 106) (by decide)
    replace H := f_iret H k132_106
    exact ⟨_, _, H, _, rfl, wrap _ (Or.inr (Or.inr ⟨c0, l, hfb, by rw [if_pos q0]⟩))⟩
  · replace H := f_if_ne_t H k132_82 (by rw [show (0 : Int32) = nI 0 from rfl, nI_inj (by omega) (by omega)]; exact q0) (t := 97) (by decide)
    replace H := f_aload_n H k132_97 rfl
    replace H := f_gr H k132_98 (ci := 11) (f := 6) (x := 63) (by decide +kernel) (by decide) (hr 0 6 63 rfl)
    replace H := f_iload_n H k132_101 rfl
    replace H := f_iload_n H k132_102 rfl
    obtain ⟨rv, m9, ⟨rfl, e3⟩, h9_103⟩ := f_inv H k132_103 (by decide +kernel) (as := [.int _, .int _]) (b := 63) (r := []) (by rfl) (c_feastRow hr hC8 hX8 (fwO_le (wsX_le hSt) C) h16 ha hch ht8 hgl rfl)
    replace H := h9_103
    rw [← e3] at H
    replace H := f_iret H k132_106
    exact ⟨_, _, H, _, rfl, wrap _ (Or.inr (Or.inr ⟨c0, l, hfb, by rw [if_neg q0]⟩))⟩
