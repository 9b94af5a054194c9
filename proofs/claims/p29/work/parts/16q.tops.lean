theorem k3_0 : lkc 0 (kcode 3) = some (.aload_n 0) := by decide +kernel
theorem k3_1 : lkc 1 (kcode 3) = some (.iconst 0) := by decide +kernel
theorem k3_2 : lkc 2 (kcode 3) = some (.putfield 26) := by decide +kernel
theorem k3_5 : lkc 5 (kcode 3) = some (.return_) := by decide +kernel
theorem k26_0 : lkc 0 (kcode 26) = some (.aload_n 0) := by decide +kernel
theorem k26_1 : lkc 1 (kcode 26) = some (.getfield 27) := by decide +kernel
theorem k26_4 : lkc 4 (kcode 26) = some (.iconst 4) := by decide +kernel
theorem k26_5 : lkc 5 (kcode 26) = some (.if_icmp .lt 5) := by decide +kernel
theorem k26_8 : lkc 8 (kcode 26) = some (.iconst (-1)) := by decide +kernel
theorem k26_9 : lkc 9 (kcode 26) = some (.ireturn) := by decide +kernel
theorem k26_10 : lkc 10 (kcode 26) = some (.aload_n 1) := by decide +kernel
theorem k26_11 : lkc 11 (kcode 26) = some (.getfield 30) := by decide +kernel
theorem k26_14 : lkc 14 (kcode 26) = some (.iconst 0) := by decide +kernel
theorem k26_15 : lkc 15 (kcode 26) = some (.aload_n 0) := by decide +kernel
theorem k26_16 : lkc 16 (kcode 26) = some (.getfield 11) := by decide +kernel
theorem k26_19 : lkc 19 (kcode 26) = some (.aload_n 0) := by decide +kernel
theorem k26_20 : lkc 20 (kcode 26) = some (.getfield 27) := by decide +kernel
theorem k26_23 : lkc 23 (kcode 26) = some (.aaload) := by decide +kernel
theorem k26_24 : lkc 24 (kcode 26) = some (.iconst 0) := by decide +kernel
theorem k26_25 : lkc 25 (kcode 26) = some (.aload_n 1) := by decide +kernel
theorem k26_26 : lkc 26 (kcode 26) = some (.getfield 35) := by decide +kernel
theorem k26_29 : lkc 29 (kcode 26) = some (.invokestatic 38) := by decide +kernel
theorem k26_32 : lkc 32 (kcode 26) = some (.aload_n 0) := by decide +kernel
theorem k26_33 : lkc 33 (kcode 26) = some (.getfield 16) := by decide +kernel
theorem k26_36 : lkc 36 (kcode 26) = some (.aload_n 0) := by decide +kernel
theorem k26_37 : lkc 37 (kcode 26) = some (.getfield 27) := by decide +kernel
theorem k26_40 : lkc 40 (kcode 26) = some (.aload_n 1) := by decide +kernel
theorem k26_41 : lkc 41 (kcode 26) = some (.getfield 35) := by decide +kernel
theorem k26_44 : lkc 44 (kcode 26) = some (.iastore) := by decide +kernel
theorem k26_45 : lkc 45 (kcode 26) = some (.aload_n 0) := by decide +kernel
theorem k26_46 : lkc 46 (kcode 26) = some (.dup) := by decide +kernel
theorem k26_47 : lkc 47 (kcode 26) = some (.getfield 27) := by decide +kernel
theorem k26_50 : lkc 50 (kcode 26) = some (.iconst 1) := by decide +kernel
theorem k26_51 : lkc 51 (kcode 26) = some (.iadd) := by decide +kernel
theorem k26_52 : lkc 52 (kcode 26) = some (.putfield 27) := by decide +kernel
theorem k26_55 : lkc 55 (kcode 26) = some (.aload_n 0) := by decide +kernel
theorem k26_56 : lkc 56 (kcode 26) = some (.getfield 27) := by decide +kernel
theorem k26_59 : lkc 59 (kcode 26) = some (.iconst 1) := by decide +kernel
theorem k26_60 : lkc 60 (kcode 26) = some (.isub) := by decide +kernel
theorem k26_61 : lkc 61 (kcode 26) = some (.ireturn) := by decide +kernel
theorem k40_0 : lkc 0 (kcode 40) = some (.aload_n 0) := by decide +kernel
theorem k40_1 : lkc 1 (kcode 40) = some (.aload_n 1) := by decide +kernel
theorem k40_2 : lkc 2 (kcode 40) = some (.getfield 26) := by decide +kernel
theorem k40_5 : lkc 5 (kcode 40) = some (.putfield 26) := by decide +kernel
theorem k40_8 : lkc 8 (kcode 40) = some (.aload_n 0) := by decide +kernel
theorem k40_9 : lkc 9 (kcode 40) = some (.aload_n 1) := by decide +kernel
theorem k40_10 : lkc 10 (kcode 40) = some (.getfield 30) := by decide +kernel
theorem k40_13 : lkc 13 (kcode 40) = some (.putfield 30) := by decide +kernel
theorem k40_16 : lkc 16 (kcode 40) = some (.aload_n 0) := by decide +kernel
theorem k40_17 : lkc 17 (kcode 40) = some (.aload_n 1) := by decide +kernel
theorem k40_18 : lkc 18 (kcode 40) = some (.getfield 33) := by decide +kernel
theorem k40_21 : lkc 21 (kcode 40) = some (.putfield 33) := by decide +kernel
theorem k40_24 : lkc 24 (kcode 40) = some (.aload_n 1) := by decide +kernel
theorem k40_25 : lkc 25 (kcode 40) = some (.getfield 9) := by decide +kernel
theorem k40_28 : lkc 28 (kcode 40) = some (.iconst 0) := by decide +kernel
theorem k40_29 : lkc 29 (kcode 40) = some (.aload_n 0) := by decide +kernel
theorem k40_30 : lkc 30 (kcode 40) = some (.getfield 9) := by decide +kernel
theorem k40_33 : lkc 33 (kcode 40) = some (.iconst 0) := by decide +kernel
theorem k40_34 : lkc 34 (kcode 40) = some (.iconst 2) := by decide +kernel
theorem k40_35 : lkc 35 (kcode 40) = some (.invokestatic 36) := by decide +kernel
theorem k40_38 : lkc 38 (kcode 40) = some (.iconst 0) := by decide +kernel
theorem k40_39 : lkc 39 (kcode 40) = some (.istore_n 2) := by decide +kernel
theorem k40_40 : lkc 40 (kcode 40) = some (.iload_n 2) := by decide +kernel
theorem k40_41 : lkc 41 (kcode 40) = some (.bipush 12) := by decide +kernel
theorem k40_43 : lkc 43 (kcode 40) = some (.if_icmp .ge 27) := by decide +kernel
theorem k40_46 : lkc 46 (kcode 40) = some (.aload_n 1) := by decide +kernel
theorem k40_47 : lkc 47 (kcode 40) = some (.getfield 17) := by decide +kernel
theorem k40_50 : lkc 50 (kcode 40) = some (.iload_n 2) := by decide +kernel
theorem k40_51 : lkc 51 (kcode 40) = some (.aaload) := by decide +kernel
theorem k40_52 : lkc 52 (kcode 40) = some (.iconst 0) := by decide +kernel
theorem k40_53 : lkc 53 (kcode 40) = some (.aload_n 0) := by decide +kernel
theorem k40_54 : lkc 54 (kcode 40) = some (.getfield 17) := by decide +kernel
theorem k40_57 : lkc 57 (kcode 40) = some (.iload_n 2) := by decide +kernel
theorem k40_58 : lkc 58 (kcode 40) = some (.aaload) := by decide +kernel
theorem k40_59 : lkc 59 (kcode 40) = some (.iconst 0) := by decide +kernel
theorem k40_60 : lkc 60 (kcode 40) = some (.iconst 4) := by decide +kernel
theorem k40_61 : lkc 61 (kcode 40) = some (.invokestatic 36) := by decide +kernel
theorem k40_64 : lkc 64 (kcode 40) = some (.iinc 2 1) := by decide +kernel
theorem k40_67 : lkc 67 (kcode 40) = some (.goto (-27)) := by decide +kernel
theorem k40_70 : lkc 70 (kcode 40) = some (.iconst 0) := by decide +kernel
theorem k40_71 : lkc 71 (kcode 40) = some (.istore_n 2) := by decide +kernel
theorem k40_72 : lkc 72 (kcode 40) = some (.iload_n 2) := by decide +kernel
theorem k40_73 : lkc 73 (kcode 40) = some (.iconst 4) := by decide +kernel
theorem k40_74 : lkc 74 (kcode 40) = some (.if_icmp .ge 27) := by decide +kernel
theorem k40_77 : lkc 77 (kcode 40) = some (.aload_n 1) := by decide +kernel
theorem k40_78 : lkc 78 (kcode 40) = some (.getfield 20) := by decide +kernel
theorem k40_81 : lkc 81 (kcode 40) = some (.iload_n 2) := by decide +kernel
theorem k40_82 : lkc 82 (kcode 40) = some (.aaload) := by decide +kernel
theorem k40_83 : lkc 83 (kcode 40) = some (.iconst 0) := by decide +kernel
theorem k40_84 : lkc 84 (kcode 40) = some (.aload_n 0) := by decide +kernel
theorem k40_85 : lkc 85 (kcode 40) = some (.getfield 20) := by decide +kernel
theorem k40_88 : lkc 88 (kcode 40) = some (.iload_n 2) := by decide +kernel
theorem k40_89 : lkc 89 (kcode 40) = some (.aaload) := by decide +kernel
theorem k40_90 : lkc 90 (kcode 40) = some (.iconst 0) := by decide +kernel
theorem k40_91 : lkc 91 (kcode 40) = some (.iconst 2) := by decide +kernel
theorem k40_92 : lkc 92 (kcode 40) = some (.invokestatic 36) := by decide +kernel
theorem k40_95 : lkc 95 (kcode 40) = some (.iinc 2 1) := by decide +kernel
theorem k40_98 : lkc 98 (kcode 40) = some (.goto (-26)) := by decide +kernel
theorem k40_101 : lkc 101 (kcode 40) = some (.aload_n 1) := by decide +kernel
theorem k40_102 : lkc 102 (kcode 40) = some (.getfield 23) := by decide +kernel
theorem k40_105 : lkc 105 (kcode 40) = some (.iconst 0) := by decide +kernel
theorem k40_106 : lkc 106 (kcode 40) = some (.aload_n 0) := by decide +kernel
theorem k40_107 : lkc 107 (kcode 40) = some (.getfield 23) := by decide +kernel
theorem k40_110 : lkc 110 (kcode 40) = some (.iconst 0) := by decide +kernel
theorem k40_111 : lkc 111 (kcode 40) = some (.bipush 8) := by decide +kernel
theorem k40_113 : lkc 113 (kcode 40) = some (.invokestatic 36) := by decide +kernel
theorem k40_116 : lkc 116 (kcode 40) = some (.return_) := by decide +kernel
theorem k79_0 : lkc 0 (kcode 79) = some (.aload_n 0) := by decide +kernel
theorem k79_1 : lkc 1 (kcode 79) = some (.getfield 42) := by decide +kernel
theorem k79_4 : lkc 4 (kcode 79) = some (.iconst 4) := by decide +kernel
theorem k79_5 : lkc 5 (kcode 79) = some (.if_icmp .lt 5) := by decide +kernel
theorem k79_8 : lkc 8 (kcode 79) = some (.iconst (-1)) := by decide +kernel
theorem k79_9 : lkc 9 (kcode 79) = some (.ireturn) := by decide +kernel
theorem k79_10 : lkc 10 (kcode 79) = some (.aload_n 0) := by decide +kernel
theorem k79_11 : lkc 11 (kcode 79) = some (.getfield 20) := by decide +kernel
theorem k79_14 : lkc 14 (kcode 79) = some (.iconst 0) := by decide +kernel
theorem k79_15 : lkc 15 (kcode 79) = some (.aload_n 0) := by decide +kernel
theorem k79_16 : lkc 16 (kcode 79) = some (.getfield 11) := by decide +kernel
theorem k79_19 : lkc 19 (kcode 79) = some (.aload_n 0) := by decide +kernel
theorem k79_20 : lkc 20 (kcode 79) = some (.getfield 42) := by decide +kernel
theorem k79_23 : lkc 23 (kcode 79) = some (.aaload) := by decide +kernel
theorem k79_24 : lkc 24 (kcode 79) = some (.iconst 0) := by decide +kernel
theorem k79_25 : lkc 25 (kcode 79) = some (.bipush 16) := by decide +kernel
theorem k79_27 : lkc 27 (kcode 79) = some (.invokestatic 45) := by decide +kernel
theorem k79_30 : lkc 30 (kcode 79) = some (.aload_n 0) := by decide +kernel
theorem k79_31 : lkc 31 (kcode 79) = some (.getfield 16) := by decide +kernel
theorem k79_34 : lkc 34 (kcode 79) = some (.aload_n 0) := by decide +kernel
theorem k79_35 : lkc 35 (kcode 79) = some (.getfield 42) := by decide +kernel
theorem k79_38 : lkc 38 (kcode 79) = some (.aload_n 0) := by decide +kernel
theorem k79_39 : lkc 39 (kcode 79) = some (.getfield 28) := by decide +kernel
theorem k79_42 : lkc 42 (kcode 79) = some (.iastore) := by decide +kernel
theorem k79_43 : lkc 43 (kcode 79) = some (.aload_n 0) := by decide +kernel
theorem k79_44 : lkc 44 (kcode 79) = some (.dup) := by decide +kernel
theorem k79_45 : lkc 45 (kcode 79) = some (.getfield 42) := by decide +kernel
theorem k79_48 : lkc 48 (kcode 79) = some (.iconst 1) := by decide +kernel
theorem k79_49 : lkc 49 (kcode 79) = some (.iadd) := by decide +kernel
theorem k79_50 : lkc 50 (kcode 79) = some (.putfield 42) := by decide +kernel
theorem k79_53 : lkc 53 (kcode 79) = some (.aload_n 0) := by decide +kernel
theorem k79_54 : lkc 54 (kcode 79) = some (.getfield 42) := by decide +kernel
theorem k79_57 : lkc 57 (kcode 79) = some (.iconst 1) := by decide +kernel
theorem k79_58 : lkc 58 (kcode 79) = some (.isub) := by decide +kernel
theorem k79_59 : lkc 59 (kcode 79) = some (.ireturn) := by decide +kernel
theorem k100_0 : lkc 0 (kcode 100) = some (.aload_n 0) := by decide +kernel
theorem k100_1 : lkc 1 (kcode 100) = some (.getfield 19) := by decide +kernel
theorem k100_4 : lkc 4 (kcode 100) = some (.aload_n 0) := by decide +kernel
theorem k100_5 : lkc 5 (kcode 100) = some (.getfield 23) := by decide +kernel
theorem k100_8 : lkc 8 (kcode 100) = some (.invokevirtual 139) := by decide +kernel
theorem k100_11 : lkc 11 (kcode 100) = some (.aload_n 0) := by decide +kernel
theorem k100_12 : lkc 12 (kcode 100) = some (.getfield 75) := by decide +kernel
theorem k100_15 : lkc 15 (kcode 100) = some (.aload_n 0) := by decide +kernel
theorem k100_16 : lkc 16 (kcode 100) = some (.getfield 19) := by decide +kernel
theorem k100_19 : lkc 19 (kcode 100) = some (.invokevirtual 143) := by decide +kernel
theorem k100_22 : lkc 22 (kcode 100) = some (.aload_n 0) := by decide +kernel
theorem k100_23 : lkc 23 (kcode 100) = some (.getfield 68) := by decide +kernel
theorem k100_26 : lkc 26 (kcode 100) = some (.iconst 0) := by decide +kernel
theorem k100_27 : lkc 27 (kcode 100) = some (.putfield 146) := by decide +kernel
theorem k100_30 : lkc 30 (kcode 100) = some (.aload_n 0) := by decide +kernel
theorem k100_31 : lkc 31 (kcode 100) = some (.getfield 85) := by decide +kernel
theorem k100_34 : lkc 34 (kcode 100) = some (.invokevirtual 149) := by decide +kernel
theorem k100_37 : lkc 37 (kcode 100) = some (.aload_n 0) := by decide +kernel
theorem k100_38 : lkc 38 (kcode 100) = some (.iconst 0) := by decide +kernel
theorem k100_39 : lkc 39 (kcode 100) = some (.putfield 152) := by decide +kernel
theorem k100_42 : lkc 42 (kcode 100) = some (.aload_n 0) := by decide +kernel
theorem k100_43 : lkc 43 (kcode 100) = some (.getfield 19) := by decide +kernel
theorem k100_46 : lkc 46 (kcode 100) = some (.getfield 156) := by decide +kernel
theorem k100_49 : lkc 49 (kcode 100) = some (.ireturn) := by decide +kernel
/-! forward: text, the class's side -/
theorem jTok {m : xM} : jT m := by unfold jT; trivial
theorem aI_a (z : Int32) : aH (fun _ => 0) (.int z) aIt := Or.inr (Or.inl ⟨rfl, z, rfl, i32_rng z, trivial⟩)
theorem aR_a (a : Nat) : aH (fun _ => 0) (.ref a) (aR [a]) := Or.inl ⟨rfl, a, rfl, List.mem_cons_self⟩
theorem cp_in {f g : Nat → Int32} {n j : Nat} (h : j < n) : va_cpy f g 0 0 n j = f j := by rw [pk_cpy_in (Nat.zero_le _) (by omega)]; congr 1; omega
theorem cl0 : (0 : Int32).toNatClampNeg = 0 := by decide
theorem rw_s12 : ∀ s : Fin 12, lay (6 + s.val) = (0, 0, 4) ∧ tR 5 s.val = some (6 + s.val) ∧ lay (27 + s.val) = (0, 0, 4) ∧ tR 26 s.val = some (27 + s.val) := by decide +kernel
theorem rw_w4 : ∀ s : Fin 4, lay (19 + s.val) = (0, 0, 2) ∧ tR 18 s.val = some (19 + s.val) ∧ lay (40 + s.val) = (0, 0, 2) ∧ tR 39 s.val = some (40 + s.val) := by decide +kernel
theorem rw_l4 : ∀ s : Fin 4, lay (49 + s.val) = (0, 0, 240) ∧ tR 48 s.val = some (49 + s.val) ∧ lay (57 + s.val) = (0, 0, 16) ∧ tR 56 s.val = some (57 + s.val) := by decide +kernel
theorem wm_f {a i : Nat} : ∀ {md : List (Nat × Nat × Nat)}, (∀ q ∈ md, ¬ (q.1 = a ∧ q.2.1 ≤ i ∧ i < q.2.2)) → wm1 md a i = false
  | [], _ => rfl
  | q :: t, h => wm1_c.mpr ⟨h q List.mem_cons_self, wm_f (fun q hq => h q (List.mem_cons_of_mem _ hq))⟩
/-- the town becomes the draft -/
def bcO (m m' : xM) : Prop := m'.2 = m.2 ∧ (∀ a i, ¬ (3 ≤ a ∧ a ≤ 23) → m'.1 a i = m.1 a i) ∧ (∀ i, i < 3 → m'.1 3 i = m.1 24 i) ∧ (∀ i, i < 2 → m'.1 4 i = m.1 25 i) ∧ (∀ s i, s < 12 → i < 4 → m'.1 (6 + s) i = m.1 (27 + s) i) ∧ (∀ w i, w < 4 → i < 2 → m'.1 (19 + w) i = m.1 (40 + w) i) ∧ ∀ c, c < 8 → m'.1 23 c = m.1 44 c
set_option maxHeartbeats 4000000 in
theorem c_become {m : xM} (hr : rS m) : fC 40 [.ref 3, .ref 24] m (fun rv m' => rv = none ∧ bcO m m') := by
  refine fC_of (by decide) (fun d n P H => ?_)
  have k4 : (4 : Int32).toNatClampNeg = 4 := by decide
  have k2 : (2 : Int32).toNatClampNeg = 2 := by decide
  have k8 : (8 : Int32).toNatClampNeg = 8 := by decide
  have fin : ∀ n (m2 : xM) x, rS m2 → m2.2 = m.2 → (∀ a i, ¬ (3 ≤ a ∧ a ≤ 23) → m2.1 a i = m.1 a i) → (∀ i, i < 3 → m2.1 3 i = m.1 24 i) → (∀ i, i < 2 → m2.1 4 i = m.1 25 i) → (∀ s i, s < 12 → i < 4 → m2.1 (6 + s) i = m.1 (27 + s) i) → (∀ w i, w < 4 → i < 2 → m2.1 (19 + w) i = m.1 (40 + w) i) → xF 40 (xw d) P n 101 [(2, .int x), (0, .ref 3), (1, .ref 24)] [] m2 → ∃ rv m', P rv m' ∧ rv = none ∧ bcO m m' := by
    intro n m2 x hr p1 p2 p3 p4 p5 p6 H
    replace H := f_aload_n H k40_101 rfl
    replace H := f_gr H k40_102 (ci := 5) (f := 7) (x := 44) (by decide +kernel) (by decide) (hr 24 7 44 rfl)
    replace H := f_iconst H k40_105 (v := 0) (by decide)
    replace H := f_aload_n H k40_106 rfl
    replace H := f_gr H k40_107 (ci := 5) (f := 7) (x := 23) (by decide +kernel) (by decide) (hr 3 7 23 rfl)
    replace H := f_iconst H k40_110 (v := 0) (by decide)
    replace H := f_bipush H k40_111 (v := 8) (by decide)
    have Hob := f_cpy H k40_113 (z := 0) (nb := 8) (na := 8) (by decide +kernel) (by decide) (by decide)
    clear H
    obtain ⟨hb113, H⟩ := Hob
    rw [cl0, k8] at H
    replace H := f_ret H k40_116
    refine ⟨_, _, H, rfl, p1, fun a i h => ?_, fun i hi => ?_, fun i hi => ?_, fun s i hs hi => ?_, fun s i hs hi => ?_, fun c hc => ?_⟩
    · rw [mC_ne (by omega)]; exact p2 a i h
    · rw [mC_ne (by omega)]; exact p3 i hi
    · rw [mC_ne (by omega)]; exact p4 i hi
    · rw [mC_ne (by omega)]; exact p5 s i hs hi
    · rw [mC_ne (by omega)]; exact p6 s i hs hi
    · rw [mC_at, cp_in hc]; exact p2 44 c (by omega)
  have loopW : ∀ n k (m2 : xM), k ≤ 4 → rS m2 → m2.2 = m.2 → (∀ a i, ¬ (3 ≤ a ∧ a ≤ 23) → m2.1 a i = m.1 a i) → (∀ i, i < 3 → m2.1 3 i = m.1 24 i) → (∀ i, i < 2 → m2.1 4 i = m.1 25 i) → (∀ s i, s < 12 → i < 4 → m2.1 (6 + s) i = m.1 (27 + s) i) → (∀ w i, w < k → i < 2 → m2.1 (19 + w) i = m.1 (40 + w) i) → xF 40 (xw d) P (n + 1) 72 [(2, .int (nI k)), (0, .ref 3), (1, .ref 24)] [] m2 → ∃ rv m', P rv m' ∧ rv = none ∧ bcO m m' := by
    intro n
    induction n with
    | zero => exact fun k m2 _ _ _ _ _ _ _ _ H => (xF_0 (f1_iload_n H k40_72 rfl)).elim
    | succ n ih =>
      intro k m2 hk hr p1 p2 p3 p4 p5 p6 H
      replace H := f1_iload_n H k40_72 rfl
      replace H := f_iconst H k40_73 (v := 4) (by decide)
      have Hbr := f_icmp_ge H k40_74 (t := 101) (by decide)
      clear H
      rcases Hbr with ⟨c, H⟩ | ⟨c, H⟩
      · rw [Int32.le_iff_toInt_le, nI_toInt (by omega), show (4 : Int32).toInt = 4 by decide] at c
        exact fin _ m2 _ hr p1 p2 p3 p4 p5 (fun w i hw hi => p6 w i (by omega) hi) H
      · rw [Int32.le_iff_toInt_le, nI_toInt (by omega), show (4 : Int32).toInt = 4 by decide] at c
        obtain ⟨y1, y2, y3, y4⟩ := rw_w4 ⟨k, by omega⟩
        replace y1 : lay (19 + k) = (0, 0, 2) := y1
        replace y2 : tR 18 k = some (19 + k) := y2
        replace y3 : lay (40 + k) = (0, 0, 2) := y3
        replace y4 : tR 39 k = some (40 + k) := y4
        generalize hR : 40 + k = R at *
        generalize hT : 19 + k = T at *
        replace H := f_aload_n H k40_77 rfl
        replace H := f_gr H k40_78 (ci := 5) (f := 6) (x := 39) (by decide +kernel) (by decide) (hr 24 6 39 rfl)
        replace H := f_iload_n H k40_81 rfl
        have Hob := f_aald H k40_82 (x := 6) (c := 4) (v := .ref R) (by decide) ((by rw [nI_clamp (by omega), hr 39 k R y4]; rfl))
        clear H
        obtain ⟨hb82, H⟩ := Hob
        replace H := f_iconst H k40_83 (v := 0) (by decide)
        replace H := f_aload_n H k40_84 rfl
        replace H := f_gr H k40_85 (ci := 5) (f := 6) (x := 18) (by decide +kernel) (by decide) (hr 3 6 18 rfl)
        replace H := f_iload_n H k40_88 rfl
        have Hob := f_aald H k40_89 (x := 6) (c := 4) (v := .ref T) (by decide) ((by rw [nI_clamp (by omega), hr 18 k T y2]; rfl))
        clear H
        obtain ⟨hb89, H⟩ := Hob
        replace H := f_iconst H k40_90 (v := 0) (by decide)
        replace H := f_iconst H k40_91 (v := 2) (by decide)
        have Hob := f_cpy H k40_92 (z := 0) (nb := 2) (na := 2) (by decide +kernel) y1 y3
        clear H
        obtain ⟨hb92, H⟩ := Hob
        replace H := f_iinc H k40_95 rfl (l2 := [(2, .int (nI k + 1)), (0, .ref 3), (1, .ref 24)]) rfl
        replace H := f_goto H k40_98 (t := 72) (by decide)
        rw [cl0, k2, nI_s] at H
        subst hR hT
        refine ih (k + 1) (mC m2 (19 + k) _) (by omega) hr p1 (fun a i h => ?_) (fun i hi => ?_) (fun i hi => ?_) (fun s i hs hi => ?_) (fun w i hw hi => ?_) H
        · rw [mC_ne (by omega)]; exact p2 a i h
        · rw [mC_ne (by omega)]; exact p3 i hi
        · rw [mC_ne (by omega)]; exact p4 i hi
        · rw [mC_ne (by omega)]; exact p5 s i hs hi
        · by_cases e : w = k
          · subst e
            rw [mC_at, cp_in hi]; exact p2 _ i (by omega)
          · rw [mC_ne (by omega)]; exact p6 w i (by omega) hi
  have loopS : ∀ n k (m2 : xM), k ≤ 12 → rS m2 → m2.2 = m.2 → (∀ a i, ¬ (3 ≤ a ∧ a ≤ 23) → m2.1 a i = m.1 a i) → (∀ i, i < 3 → m2.1 3 i = m.1 24 i) → (∀ i, i < 2 → m2.1 4 i = m.1 25 i) → (∀ s i, s < k → i < 4 → m2.1 (6 + s) i = m.1 (27 + s) i) → xF 40 (xw d) P (n + 1) 40 [(2, .int (nI k)), (0, .ref 3), (1, .ref 24)] [] m2 → ∃ rv m', P rv m' ∧ rv = none ∧ bcO m m' := by
    intro n
    induction n with
    | zero => exact fun k m2 _ _ _ _ _ _ _ H => (xF_0 (f1_iload_n H k40_40 rfl)).elim
    | succ n ih =>
      intro k m2 hk hr p1 p2 p3 p4 p5 H
      replace H := f1_iload_n H k40_40 rfl
      replace H := f_bipush H k40_41 (v := 12) (by decide)
      have Hbr := f_icmp_ge H k40_43 (t := 70) (by decide)
      clear H
      rcases Hbr with ⟨c, H⟩ | ⟨c, H⟩
      · rw [Int32.le_iff_toInt_le, nI_toInt (by omega), show (12 : Int32).toInt = 12 by decide] at c
        replace H := f_iconst H k40_70 (v := 0) (by decide)
        replace H := f_istore_n H k40_71 (l2 := [(2, .int 0), (0, .ref 3), (1, .ref 24)]) rfl
        exact loopW n 0 m2 (by omega) hr p1 p2 p3 p4 (fun s i hs hi => p5 s i (by omega) hi) (fun w i hw => absurd hw (Nat.not_lt_zero _)) H
      · rw [Int32.le_iff_toInt_le, nI_toInt (by omega), show (12 : Int32).toInt = 12 by decide] at c
        obtain ⟨y1, y2, y3, y4⟩ := rw_s12 ⟨k, by omega⟩
        replace y1 : lay (6 + k) = (0, 0, 4) := y1
        replace y2 : tR 5 k = some (6 + k) := y2
        replace y3 : lay (27 + k) = (0, 0, 4) := y3
        replace y4 : tR 26 k = some (27 + k) := y4
        generalize hR : 27 + k = R at *
        generalize hT : 6 + k = T at *
        replace H := f_aload_n H k40_46 rfl
        replace H := f_gr H k40_47 (ci := 5) (f := 5) (x := 26) (by decide +kernel) (by decide) (hr 24 5 26 rfl)
        replace H := f_iload_n H k40_50 rfl
        have Hob := f_aald H k40_51 (x := 6) (c := 12) (v := .ref R) (by decide) ((by rw [nI_clamp (by omega), hr 26 k R y4]; rfl))
        clear H
        obtain ⟨hb51, H⟩ := Hob
        replace H := f_iconst H k40_52 (v := 0) (by decide)
        replace H := f_aload_n H k40_53 rfl
        replace H := f_gr H k40_54 (ci := 5) (f := 5) (x := 5) (by decide +kernel) (by decide) (hr 3 5 5 rfl)
        replace H := f_iload_n H k40_57 rfl
        have Hob := f_aald H k40_58 (x := 6) (c := 12) (v := .ref T) (by decide) ((by rw [nI_clamp (by omega), hr 5 k T y2]; rfl))
        clear H
        obtain ⟨hb58, H⟩ := Hob
        replace H := f_iconst H k40_59 (v := 0) (by decide)
        replace H := f_iconst H k40_60 (v := 4) (by decide)
        have Hob := f_cpy H k40_61 (z := 0) (nb := 4) (na := 4) (by decide +kernel) y1 y3
        clear H
        obtain ⟨hb61, H⟩ := Hob
        replace H := f_iinc H k40_64 rfl (l2 := [(2, .int (nI k + 1)), (0, .ref 3), (1, .ref 24)]) rfl
        replace H := f_goto H k40_67 (t := 40) (by decide)
        rw [cl0, k4, nI_s] at H
        subst hR hT
        refine ih (k + 1) (mC m2 (6 + k) _) (by omega) hr p1 (fun a i h => ?_) (fun i hi => ?_) (fun i hi => ?_) (fun s i hs hi => ?_) H
        · rw [mC_ne (by omega)]; exact p2 a i h
        · rw [mC_ne (by omega)]; exact p3 i hi
        · rw [mC_ne (by omega)]; exact p4 i hi
        · by_cases e : s = k
          · subst e
            rw [mC_at, cp_in hi]; exact p2 _ i (by omega)
          · rw [mC_ne (by omega)]; exact p5 s i (by omega) hi
  replace H := f_aload_n H k40_0 rfl
  replace H := f_aload_n H k40_1 rfl
  replace H := f_gi H k40_2 (ci := 5) (f := 0) (by decide +kernel) (by decide)
  replace H := f_put_i H k40_5 (ci := 5) (f := 0) (by decide +kernel) (by decide)
  replace H := f_aload_n H k40_8 rfl
  replace H := f_aload_n H k40_9 rfl
  replace H := f_gi H k40_10 (ci := 5) (f := 1) (by decide +kernel) (by decide)
  replace H := f_put_i H k40_13 (ci := 5) (f := 1) (by decide +kernel) (by decide)
  replace H := f_aload_n H k40_16 rfl
  replace H := f_aload_n H k40_17 rfl
  replace H := f_gi H k40_18 (ci := 5) (f := 2) (by decide +kernel) (by decide)
  replace H := f_put_i H k40_21 (ci := 5) (f := 2) (by decide +kernel) (by decide)
  replace H := f_aload_n H k40_24 rfl
  replace H := f_gr H k40_25 (ci := 5) (f := 4) (x := 25) (by decide +kernel) (by decide) (hr 24 4 25 rfl)
  replace H := f_iconst H k40_28 (v := 0) (by decide)
  replace H := f_aload_n H k40_29 rfl
  replace H := f_gr H k40_30 (ci := 5) (f := 4) (x := 4) (by decide +kernel) (by decide) (hr 3 4 4 rfl)
  replace H := f_iconst H k40_33 (v := 0) (by decide)
  replace H := f_iconst H k40_34 (v := 2) (by decide)
  have Hob := f_cpy H k40_35 (z := 0) (nb := 2) (na := 2) (by decide +kernel) (by decide) (by decide)
  clear H
  obtain ⟨hb35, H⟩ := Hob
  replace H := f_iconst H k40_38 (v := 0) (by decide)
  replace H := f_istore_n H k40_39 (l2 := [(2, .int 0), (0, .ref 3), (1, .ref 24)]) rfl
  rw [cl0, k2] at H
  refine loopS n 0 (mC (mI (mI (mI m 3 0 _) 3 1 _) 3 2 _) 4 _) (by omega) hr rfl (fun a i h => ?_) (fun i hi => ?_) (fun i hi => ?_) (fun s i hs => absurd hs (Nat.not_lt_zero _)) (f_up H (Nat.le_succ _))
  · rw [mC_ne (by omega), mI_ne (by omega), mI_ne (by omega), mI_ne (by omega)]
  · rw [mC_ne (by omega)]
    match i, hi with
    | 0, _ => rw [mI_ne (by omega), mI_ne (by omega), mI_at]
    | 1, _ => rw [mI_ne (by omega), mI_at, mI_ne (by omega)]
    | 2, _ => rw [mI_at, mI_ne (by omega), mI_ne (by omega)]
  · rw [mC_at, cp_in hi, mI_ne (by omega), mI_ne (by omega), mI_ne (by omega)]
theorem c_forget {m : xM} : fC 3 [.ref 99] m (fun rv m' => rv = none ∧ m' = mI m 99 2 0) := by
  refine fC_of (by decide) (fun d n P H => ?_)
  replace H := f_aload_n H k3_0 rfl
  replace H := f_iconst H k3_1 (v := 0) (by decide)
  replace H := f_put_i H k3_2 (ci := 0) (f := 2) (by decide +kernel) (by decide)
  replace H := f_ret H k3_5
  exact ⟨_, _, H, rfl, rfl⟩
/-- what settling a town does, with what its scene begins as left open -/
theorem c_settle {m : xM} (hI : gI tS tR m) : fC 100 [.ref 0] m (fun rv m' => rv = some (.int (m.1 24 1)) ∧ m'.1 0 15 = 0 ∧ m'.1 84 4 = 0 ∧ m'.1 99 2 = 0 ∧ ∃ m1, bcO m m1 ∧ ∀ a i, ¬ (89 ≤ a ∧ a ≤ 93) → ¬ (a = 0 ∧ i = 15) → ¬ (a = 84 ∧ i = 4) → ¬ (a = 99 ∧ i = 2) → m'.1 a i = m1.1 a i) := by
  refine fC_of (by decide) (fun d n P H => ?_)
  have hr : rS m := hI.2
  replace H := f_aload_n H k100_0 rfl
  replace H := f_gr H k100_1 (ci := 11) (f := 1) (x := 3) (by decide +kernel) (by decide) (hr 0 1 3 rfl)
  replace H := f_aload_n H k100_4 rfl
  replace H := f_gr H k100_5 (ci := 11) (f := 2) (x := 24) (by decide +kernel) (by decide) (hr 0 2 24 rfl)
  obtain ⟨rv, m1, ⟨⟨rfl, b1⟩, hI1, -⟩, h9_8⟩ := f_inv H k100_8 (by decide +kernel) (as := [.ref 24]) (b := 3) (r := []) (by rfl) (fC_two (c_become hr) (fC_vC q103 hI jTok ⟨aR_a 3, aR_a 24, trivial⟩ gF_nil))
  replace H := h9_8
  have hr : rS m1 := hI1.2
  replace H := f_aload_n H k100_11 rfl
  replace H := f_gr H k100_12 (ci := 11) (f := 9) (x := 89) (by decide +kernel) (by decide) (hr 0 9 89 rfl)
  replace H := f_aload_n H k100_15 rfl
  replace H := f_gr H k100_16 (ci := 11) (f := 1) (x := 3) (by decide +kernel) (by decide) (hr 0 1 3 rfl)
  obtain ⟨rv, m2, ⟨hI2, g2, ho⟩, h9_19⟩ := f_inv H k100_19 (by decide +kernel) (as := [.ref 3]) (b := 89) (r := []) (by rfl) (fC_vC q105 hI1 jTok ⟨aR_a 89, aR_a 3, trivial⟩ gF_nil)
  replace H := h9_19
  have hr : rS m2 := hI2.2
  have e0 : rv = none := by
    obtain ⟨o, ho, h9, -⟩ := ho
    rw [List.mem_singleton.mp ho] at h9
    revert h9
    cases rv with
    | none => exact fun _ => rfl
    | some v => exact fun h => by cases h
  subst e0
  replace H := f_aload_n H k100_22 rfl
  replace H := f_gr H k100_23 (ci := 11) (f := 8) (x := 84) (by decide +kernel) (by decide) (hr 0 8 84 rfl)
  replace H := f_iconst H k100_26 (v := 0) (by decide)
  replace H := f_put_i H k100_27 (ci := 7) (f := 4) (by decide +kernel) (by decide)
  replace H := f_aload_n H k100_30 rfl
  replace H := f_gr H k100_31 (ci := 11) (f := 11) (x := 99) (by decide +kernel) (by decide) (hr 0 11 99 rfl)
  obtain ⟨rv, m3, ⟨rfl, rfl⟩, h9_34⟩ := f_inv H k100_34 (by decide +kernel) (as := []) (b := 99) (r := []) (by rfl) (c_forget)
  replace H := h9_34
  replace H := f_aload_n H k100_37 rfl
  replace H := f_iconst H k100_38 (v := 0) (by decide)
  replace H := f_put_b H k100_39 (ci := 11) (f := 15) (by decide +kernel) (by decide)
  replace H := f_aload_n H k100_42 rfl
  replace H := f_gr H k100_43 (ci := 11) (f := 1) (x := 3) (by decide +kernel) (by decide) (hr 0 1 3 rfl)
  replace H := f_gi H k100_46 (ci := 5) (f := 1) (by decide +kernel) (by decide)
  replace H := f_iret H k100_49
  have h9 : ∀ q ∈ q105c.2.2.2.2, 89 ≤ q.1 ∧ q.1 ≤ 93 := by decide
  have g3 : ∀ a i, ¬ (89 ≤ a ∧ a ≤ 93) → m2.1 a i = m1.1 a i := fun a i h => g2 a i (wm_f (fun q hq z => by have := h9 q hq; omega))
  refine ⟨_, _, H, ?_, mI_at, ?_, ?_, m1, b1, fun a i h1 h2 h3 h4 => ?_⟩
  · rw [mI_ne (by omega), mI_ne (by omega), mI_ne (by omega), g3 3 1 (by omega), b1.2.2.1 1 (by omega)]
  · rw [mI_ne (by omega), mI_ne (by omega), mI_at]
  · rw [mI_ne (by omega), mI_at]
  · rw [mI_ne h2, mI_ne h4, mI_ne h3, g3 a i h1]
theorem c_addFrom {m : xM} {L : Nat} (hr : rS m) (h1 : m.1 47 4 = nI L) (hL : L ≤ 4) : fC 26 [.ref 47, .ref 45] m (fun rv m' => (L = 4 ∧ rv = some (.int (-1)) ∧ m' = m) ∨ (L < 4 ∧ rv = some (.int (nI L)) ∧ m'.1 47 4 = nI (L + 1) ∧ m'.2 = m.2 ∧ ∀ a i, ¬ (49 ≤ a ∧ a ≤ 53) → ¬ (a = 47 ∧ i = 4) → m'.1 a i = m.1 a i)) := by
  refine fC_of (by decide) (fun d n P H => ?_)
  replace H := f_aload_n H k26_0 rfl
  replace H := f_gi H k26_1 (ci := 3) (f := 4) (by decide +kernel) (by decide)
  replace H := f_iconst H k26_4 (v := 4) (by decide)
  rw [h1] at H
  have Hbr := f_icmp_lt H k26_5 (t := 10) (by decide)
  clear H
  rcases Hbr with ⟨c, H⟩ | ⟨c, H⟩
  · rw [Int32.lt_iff_toInt_lt, nI_toInt (by omega), show (4 : Int32).toInt = 4 by decide] at c
    have hL4 : L < 4 := by omega
    obtain ⟨y1, y2, -, -⟩ := rw_l4 ⟨L, hL4⟩
    replace y1 : lay (49 + L) = (0, 0, 240) := y1
    replace y2 : tR 48 L = some (49 + L) := y2
    generalize hR : 49 + L = R at *
    replace H := f_aload_n H k26_10 rfl
    replace H := f_gr H k26_11 (ci := 2) (f := 1) (x := 46) (by decide +kernel) (by decide) (hr 45 1 46 rfl)
    replace H := f_iconst H k26_14 (v := 0) (by decide)
    replace H := f_aload_n H k26_15 rfl
    replace H := f_gr H k26_16 (ci := 3) (f := 0) (x := 48) (by decide +kernel) (by decide) (hr 47 0 48 rfl)
    replace H := f_aload_n H k26_19 rfl
    replace H := f_gi H k26_20 (ci := 3) (f := 4) (by decide +kernel) (by decide)
    have Hob := f_aald H k26_23 (x := 6) (c := 4) (v := .ref R) (by decide) ((by rw [h1, nI_clamp (by omega), hr 48 L R y2]; rfl))
    clear H
    obtain ⟨hb23, H⟩ := Hob
    replace H := f_iconst H k26_24 (v := 0) (by decide)
    replace H := f_aload_n H k26_25 rfl
    replace H := f_gi H k26_26 (ci := 2) (f := 2) (by decide +kernel) (by decide)
    have Hob := f_cpy H k26_29 (z := 0) (nb := 240) (na := 240) (by decide +kernel) y1 (by decide)
    clear H
    obtain ⟨hb29, H⟩ := Hob
    replace H := f_aload_n H k26_32 rfl
    replace H := f_gr H k26_33 (ci := 3) (f := 1) (x := 53) (by decide +kernel) (by decide) (hr 47 1 53 rfl)
    replace H := f_aload_n H k26_36 rfl
    replace H := f_gi H k26_37 (ci := 3) (f := 4) (by decide +kernel) (by decide)
    replace H := f_aload_n H k26_40 rfl
    replace H := f_gi H k26_41 (ci := 2) (f := 2) (by decide +kernel) (by decide)
    have Hob := f_iast H k26_44 (c := 4) (by decide)
    clear H
    obtain ⟨hb44, H⟩ := Hob
    replace H := f_aload_n H k26_45 rfl
    replace H := f_dup H k26_46
    replace H := f_gi H k26_47 (ci := 3) (f := 4) (by decide +kernel) (by decide)
    replace H := f_iconst H k26_50 (v := 1) (by decide)
    replace H := f_iadd H k26_51
    replace H := f_put_i H k26_52 (ci := 3) (f := 4) (by decide +kernel) (by decide)
    replace H := f_aload_n H k26_55 rfl
    replace H := f_gi H k26_56 (ci := 3) (f := 4) (by decide +kernel) (by decide)
    replace H := f_iconst H k26_59 (v := 1) (by decide)
    replace H := f_isub H k26_60
    rw [mI_at] at H
    replace H := f_iret H k26_61
    subst hR
    have q1 : ∀ {m2 : xM} {x : Int32} {j : Nat}, m2.1 47 4 = nI L → (mI m2 53 j x).1 47 4 = nI L := fun h => by rw [mI_ne (by omega)]; exact h
    have q2 : ∀ {f : Nat → Int32}, (mC m (49 + L) f).1 47 4 = nI L := by
      intro f
      rw [mC_ne (by omega)]
      exact h1
    refine ⟨_, _, H, Or.inr ⟨hL4, ?_, ?_, rfl, fun a i k1 k2 => ?_⟩⟩
    · rw [q1 q2]
      have h5 : L = 0 ∨ L = 1 ∨ L = 2 ∨ L = 3 := by omega
      rcases h5 with rfl | rfl | rfl | rfl <;> decide
    · rw [mI_at, q1 q2, nI_s]
    · rw [mI_ne k2, mI_ne (by omega), mC_ne (by omega)]
  · rw [Int32.lt_iff_toInt_lt, nI_toInt (by omega), show (4 : Int32).toInt = 4 by decide] at c
    replace H := f_iconst H k26_8 (v := -1) (by decide)
    replace H := f_iret H k26_9
    exact ⟨_, _, H, Or.inl ⟨by omega, rfl, rfl⟩⟩
theorem c_addDraft {m : xM} {K : Nat} (hr : rS m) (h1 : m.1 55 4 = nI K) (hK : K ≤ 4) : fC 79 [.ref 55] m (fun rv m' => (K = 4 ∧ rv = some (.int (-1)) ∧ m' = m) ∨ (K < 4 ∧ rv = some (.int (nI K)) ∧ m'.1 55 4 = nI (K + 1) ∧ m'.2 = m.2 ∧ m'.1 61 K = m.1 55 3 ∧ (∀ i, i < 16 → m'.1 (57 + K) i = m.1 62 i) ∧ ∀ a i, ¬ (a = 57 + K) → ¬ (a = 61 ∧ i = K) → ¬ (a = 55 ∧ i = 4) → m'.1 a i = m.1 a i)) := by
  refine fC_of (by decide) (fun d n P H => ?_)
  have k16 : (16 : Int32).toNatClampNeg = 16 := by decide
  replace H := f_aload_n H k79_0 rfl
  replace H := f_gi H k79_1 (ci := 9) (f := 4) (by decide +kernel) (by decide)
  replace H := f_iconst H k79_4 (v := 4) (by decide)
  rw [h1] at H
  have Hbr := f_icmp_lt H k79_5 (t := 10) (by decide)
  clear H
  rcases Hbr with ⟨c, H⟩ | ⟨c, H⟩
  · rw [Int32.lt_iff_toInt_lt, nI_toInt (by omega), show (4 : Int32).toInt = 4 by decide] at c
    have hK4 : K < 4 := by omega
    obtain ⟨-, -, y1, y2⟩ := rw_l4 ⟨K, hK4⟩
    replace y1 : lay (57 + K) = (0, 0, 16) := y1
    replace y2 : tR 56 K = some (57 + K) := y2
    generalize hR : 57 + K = R at *
    replace H := f_aload_n H k79_10 rfl
    replace H := f_gr H k79_11 (ci := 9) (f := 2) (x := 62) (by decide +kernel) (by decide) (hr 55 2 62 rfl)
    replace H := f_iconst H k79_14 (v := 0) (by decide)
    replace H := f_aload_n H k79_15 rfl
    replace H := f_gr H k79_16 (ci := 9) (f := 0) (x := 56) (by decide +kernel) (by decide) (hr 55 0 56 rfl)
    replace H := f_aload_n H k79_19 rfl
    replace H := f_gi H k79_20 (ci := 9) (f := 4) (by decide +kernel) (by decide)
    have Hob := f_aald H k79_23 (x := 6) (c := 4) (v := .ref R) (by decide) ((by rw [h1, nI_clamp (by omega), hr 56 K R y2]; rfl))
    clear H
    obtain ⟨hb23, H⟩ := Hob
    replace H := f_iconst H k79_24 (v := 0) (by decide)
    replace H := f_bipush H k79_25 (v := 16) (by decide)
    have Hob := f_cpy H k79_27 (z := 0) (nb := 16) (na := 16) (by decide +kernel) y1 (by decide)
    clear H
    obtain ⟨hb27, H⟩ := Hob
    replace H := f_aload_n H k79_30 rfl
    replace H := f_gr H k79_31 (ci := 9) (f := 1) (x := 61) (by decide +kernel) (by decide) (hr 55 1 61 rfl)
    replace H := f_aload_n H k79_34 rfl
    replace H := f_gi H k79_35 (ci := 9) (f := 4) (by decide +kernel) (by decide)
    replace H := f_aload_n H k79_38 rfl
    replace H := f_gi H k79_39 (ci := 9) (f := 3) (by decide +kernel) (by decide)
    have Hob := f_iast H k79_42 (c := 4) (by decide)
    clear H
    obtain ⟨hb42, H⟩ := Hob
    replace H := f_aload_n H k79_43 rfl
    replace H := f_dup H k79_44
    replace H := f_gi H k79_45 (ci := 9) (f := 4) (by decide +kernel) (by decide)
    replace H := f_iconst H k79_48 (v := 1) (by decide)
    replace H := f_iadd H k79_49
    replace H := f_put_i H k79_50 (ci := 9) (f := 4) (by decide +kernel) (by decide)
    replace H := f_aload_n H k79_53 rfl
    replace H := f_gi H k79_54 (ci := 9) (f := 4) (by decide +kernel) (by decide)
    replace H := f_iconst H k79_57 (v := 1) (by decide)
    replace H := f_isub H k79_58
    rw [mI_at, cl0, k16] at H
    replace H := f_iret H k79_59
    subst hR
    have q2 : ∀ {f : Nat → Int32}, (mC m (57 + K) f).1 55 4 = nI K := by
      intro f
      rw [mC_ne (by omega)]
      exact h1
    have q3 : ∀ {f : Nat → Int32}, (mC m (57 + K) f).1 55 3 = m.1 55 3 := by
      intro f
      rw [mC_ne (by omega)]
    rw [q2, nI_clamp (by omega), q3] at H
    have q1 : ∀ {m2 : xM} {x : Int32} {j : Nat}, m2.1 55 4 = nI K → (mI m2 61 j x).1 55 4 = nI K := fun h => by rw [mI_ne (by omega)]; exact h
    refine ⟨_, _, H, Or.inr ⟨hK4, ?_, ?_, rfl, ?_, fun i hi => ?_, fun a i k1 k2 k3 => ?_⟩⟩
    · rw [q1 q2]
      have h5 : K = 0 ∨ K = 1 ∨ K = 2 ∨ K = 3 := by omega
      rcases h5 with rfl | rfl | rfl | rfl <;> decide
    · rw [mI_at, q1 q2, nI_s]
    · rw [mI_ne (by omega), mI_at]
    · rw [mI_ne (by omega), mI_ne (by omega), mC_at, cp_in hi]
    · rw [mI_ne k3, mI_ne k2, mC_ne k1]
  · rw [Int32.lt_iff_toInt_lt, nI_toInt (by omega), show (4 : Int32).toInt = 4 by decide] at c
    replace H := f_iconst H k79_8 (v := -1) (by decide)
    replace H := f_iret H k79_9
    exact ⟨_, _, H, Or.inl ⟨by omega, rfl, rfl⟩⟩
theorem k99_0 : lkc 0 (kcode 99) = some (.aload_n 0) := by decide +kernel
theorem k99_1 : lkc 1 (kcode 99) = some (.iload_n 1) := by decide +kernel
theorem k99_2 : lkc 2 (kcode 99) = some (.invokevirtual 126) := by decide +kernel
theorem k99_5 : lkc 5 (kcode 99) = some (.iconst (-1)) := by decide +kernel
theorem k99_6 : lkc 6 (kcode 99) = some (.if_icmp .eq 5) := by decide +kernel
theorem k99_9 : lkc 9 (kcode 99) = some (.iconst (-1)) := by decide +kernel
theorem k99_10 : lkc 10 (kcode 99) = some (.ireturn) := by decide +kernel
theorem k99_11 : lkc 11 (kcode 99) = some (.iconst (-1)) := by decide +kernel
theorem k99_12 : lkc 12 (kcode 99) = some (.istore_n 2) := by decide +kernel
theorem k99_13 : lkc 13 (kcode 99) = some (.iload_n 1) := by decide +kernel
theorem k99_14 : lkc 14 (kcode 99) = some (.ifCond .ne 11) := by decide +kernel
theorem k99_17 : lkc 17 (kcode 99) = some (.aload_n 0) := by decide +kernel
theorem k99_18 : lkc 18 (kcode 99) = some (.invokevirtual 129) := by decide +kernel
theorem k99_21 : lkc 21 (kcode 99) = some (.istore_n 2) := by decide +kernel
theorem k99_22 : lkc 22 (kcode 99) = some (.goto 36) := by decide +kernel
theorem k99_25 : lkc 25 (kcode 99) = some (.iload_n 1) := by decide +kernel
theorem k99_26 : lkc 26 (kcode 99) = some (.iconst 1) := by decide +kernel
theorem k99_27 : lkc 27 (kcode 99) = some (.if_icmp .ne 18) := by decide +kernel
theorem k99_30 : lkc 30 (kcode 99) = some (.aload_n 0) := by decide +kernel
theorem k99_31 : lkc 31 (kcode 99) = some (.getfield 38) := by decide +kernel
theorem k99_34 : lkc 34 (kcode 99) = some (.aload_n 0) := by decide +kernel
theorem k99_35 : lkc 35 (kcode 99) = some (.getfield 31) := by decide +kernel
theorem k99_38 : lkc 38 (kcode 99) = some (.invokevirtual 132) := by decide +kernel
theorem k99_41 : lkc 41 (kcode 99) = some (.istore_n 2) := by decide +kernel
theorem k99_42 : lkc 42 (kcode 99) = some (.goto 16) := by decide +kernel
theorem k99_45 : lkc 45 (kcode 99) = some (.iload_n 1) := by decide +kernel
theorem k99_46 : lkc 46 (kcode 99) = some (.iconst 2) := by decide +kernel
theorem k99_47 : lkc 47 (kcode 99) = some (.if_icmp .ne 11) := by decide +kernel
theorem k99_50 : lkc 50 (kcode 99) = some (.aload_n 0) := by decide +kernel
theorem k99_51 : lkc 51 (kcode 99) = some (.getfield 45) := by decide +kernel
theorem k99_54 : lkc 54 (kcode 99) = some (.invokevirtual 136) := by decide +kernel
theorem k99_57 : lkc 57 (kcode 99) = some (.istore_n 2) := by decide +kernel
theorem k99_58 : lkc 58 (kcode 99) = some (.iload_n 2) := by decide +kernel
theorem k99_59 : lkc 59 (kcode 99) = some (.iconst (-1)) := by decide +kernel
theorem k99_60 : lkc 60 (kcode 99) = some (.if_icmp .eq 11) := by decide +kernel
theorem k99_63 : lkc 63 (kcode 99) = some (.aload_n 0) := by decide +kernel
theorem k99_64 : lkc 64 (kcode 99) = some (.getfield 10) := by decide +kernel
theorem k99_67 : lkc 67 (kcode 99) = some (.iconst 0) := by decide +kernel
theorem k99_68 : lkc 68 (kcode 99) = some (.putfield 110) := by decide +kernel
theorem k99_71 : lkc 71 (kcode 99) = some (.iload_n 2) := by decide +kernel
theorem k99_72 : lkc 72 (kcode 99) = some (.ireturn) := by decide +kernel
/-! forward: text, both sides -/
/-- what text(z) does: N bytes t on the tape, str streets, L laws, K walks before; the numbers behind -/
def txO (N : Nat) (t : Nat → Int32) (z str : Int32) (L K : Nat) (rv : Option Value) (N2 str2 L2 K2 : Int32) : Prop :=
  ((¬ FA N t z (-1) ∨ (z = 1 ∧ L = 4) ∨ (z = 2 ∧ K = 4)) ∧ rv = some (.int (-1)) ∧ N2 = nI N ∧ str2 = str ∧ L2 = nI L ∧ K2 = nI K)
  ∨ (FA N t z (-1) ∧ z = 0 ∧ ∃ S f, twR N t f tw0 0 (.inl S) ∧ rv = some (.int (nI S.1)) ∧ N2 = 0 ∧ str2 = nI S.1 ∧ L2 = nI L ∧ K2 = nI K)
  ∨ (FA N t z (-1) ∧ z = 1 ∧ L < 4 ∧ rv = some (.int (nI L)) ∧ N2 = 0 ∧ str2 = str ∧ L2 = nI (L + 1) ∧ K2 = nI K)
  ∨ (FA N t z (-1) ∧ z = 2 ∧ K < 4 ∧ rv = some (.int (nI K)) ∧ N2 = 0 ∧ str2 = str ∧ L2 = nI L ∧ K2 = nI (K + 1))
theorem txO_det {N : Nat} {t : Nat → Int32} {z str : Int32} {L K : Nat} {rv rv' : Option Value} {N2 str2 L2 K2 N3 str3 L3 K3 : Int32} (h : txO N t z str L K rv N2 str2 L2 K2) (g : txO N t z str L K rv' N3 str3 L3 K3) : rv = rv' ∧ N2 = N3 ∧ str2 = str3 ∧ L2 = L3 ∧ K2 = K3 := by
  rcases h with ⟨a1, a2, a3, a4, a5, a6⟩ | ⟨a0, a1, S, f, a2, a3, a4, a5, a6, a7⟩ | ⟨a0, a1, a2, a3, a4, a5, a6, a7⟩ | ⟨a0, a1, a2, a3, a4, a5, a6, a7⟩ <;> rcases g with ⟨b1, b2, b3, b4, b5, b6⟩ | ⟨b0, b1, S2, f2, b2, b3, b4, b5, b6, b7⟩ | ⟨b0, b1, b2, b3, b4, b5, b6, b7⟩ | ⟨b0, b1, b2, b3, b4, b5, b6, b7⟩
  · exact ⟨by rw [a2, b2], by rw [a3, b3], by rw [a4, b4], by rw [a5, b5], by rw [a6, b6]⟩
  · rcases a1 with c | ⟨c, -⟩ | ⟨c, -⟩
    · exact absurd b0 c
    · rw [c] at b1; exact absurd b1 (by decide)
    · rw [c] at b1; exact absurd b1 (by decide)
  · rcases a1 with c | ⟨c, e⟩ | ⟨c, -⟩
    · exact absurd b0 c
    · omega
    · rw [c] at b1; exact absurd b1 (by decide)
  · rcases a1 with c | ⟨c, e⟩ | ⟨c, e⟩
    · exact absurd b0 c
    · rw [c] at b1; exact absurd b1 (by decide)
    · omega
  · rcases b1 with c | ⟨c, -⟩ | ⟨c, -⟩
    · exact absurd a0 c
    · rw [c] at a1; exact absurd a1 (by decide)
    · rw [c] at a1; exact absurd a1 (by decide)
  · have := twR_det f f2 _ _ _ _ a2 b2
    cases this
    exact ⟨by rw [a3, b3], by rw [a4, b4], by rw [a5, b5], by rw [a6, b6], by rw [a7, b7]⟩
  · rw [a1] at b1; exact absurd b1 (by decide)
  · rw [a1] at b1; exact absurd b1 (by decide)
  · rcases b1 with c | ⟨c, e⟩ | ⟨c, -⟩
    · exact absurd a0 c
    · omega
    · rw [c] at a1; exact absurd a1 (by decide)
  · rw [a1] at b1; exact absurd b1 (by decide)
  · exact ⟨by rw [a3, b3], by rw [a4, b4], by rw [a5, b5], by rw [a6, b6], by rw [a7, b7]⟩
  · rw [a1] at b1; exact absurd b1 (by decide)
  · rcases b1 with c | ⟨c, e⟩ | ⟨c, e⟩
    · exact absurd a0 c
    · rw [c] at a1; exact absurd a1 (by decide)
    · omega
  · rw [a1] at b1; exact absurd b1 (by decide)
  · rw [a1] at b1; exact absurd b1 (by decide)
  · exact ⟨by rw [a3, b3], by rw [a4, b4], by rw [a5, b5], by rw [a6, b6], by rw [a7, b7]⟩
set_option maxHeartbeats 4000000 in
theorem c_text {m : xM} {N L K : Nat} {t : Nat → Int32} {z : Int32} (hI : gI tS tR m) (h1 : m.1 1 1 = nI N) (hN : N ≤ 240) (h2 : m.1 2 = t) (hL : m.1 47 4 = nI L) (hL4 : L ≤ 4) (hK : m.1 55 4 = nI K) (hK4 : K ≤ 4) : fC 99 [.ref 0, .int z] m (fun rv m' => txO N t z (m.1 3 1) L K rv (m'.1 1 1) (m'.1 3 1) (m'.1 47 4) (m'.1 55 4) ∧ m'.1 2 = t ∧ (z = 2 → FA N t z (-1) → K < 4 → m'.1 61 K = nI (wk0 N t).1 ∧ (wk0 N t).1 ≤ 16 ∧ ∀ i, i < (wk0 N t).1 → m'.1 (57 + K) i = (wk0 N t).2.1 i) ∧ ∀ k, k < K → m'.1 61 k = m.1 61 k ∧ ∀ i, m'.1 (57 + k) i = m.1 (57 + k) i) := by
  refine fC_of (by decide) (fun d n P H => ?_)
  have hr : rS m := hI.2
  replace H := f_aload_n H k99_0 rfl
  replace H := f_iload_n H k99_1 rfl
  obtain ⟨rv, m1, ⟨⟨v, rfl, fa, f0, f2⟩, hI1, fr, -⟩, h9_2⟩ := f_inv H k99_2 (by decide +kernel) (as := [.int _]) (b := 0) (r := []) (by rfl) (fC_two (c_fault hr h1 hN h2) (fC_vC q100 hI jTok ⟨aR_a 0, aI_a z, trivial⟩ gF_nil))
  replace H := h9_2
  have h9 : ∀ q ∈ q100c.2.2.2.2, q.1 ≠ 2 ∧ q.1 ≠ 3 ∧ q.1 ≠ 47 ∧ (q.1 < 57 ∨ 61 < q.1) ∧ (q.1 = 1 → 2 ≤ q.2.1) ∧ (q.1 = 55 → q.2.2 ≤ 4) := by decide
  have hf : ∀ a i, (a = 1 ∧ i = 1) ∨ a = 2 ∨ a = 3 ∨ a = 47 ∨ (a = 55 ∧ i = 4) ∨ (57 ≤ a ∧ a ≤ 61) → m1.1 a i = m.1 a i := fun a i h => fr a i (wm_f (fun q hq z => by have := h9 q hq; omega))
  have hr : rS m1 := hI1.2
  have g1 : m1.1 1 1 = nI N := by rw [hf 1 1 (by omega)]; exact h1
  have g2 : m1.1 2 = t := by rw [← h2]; exact funext fun j => hf 2 j (by omega)
  have gL : m1.1 47 4 = nI L := by rw [hf 47 4 (by omega)]; exact hL
  have gK : m1.1 55 4 = nI K := by rw [hf 55 4 (by omega)]; exact hK
  have g3 : m1.1 3 1 = m.1 3 1 := hf 3 1 (by omega)
  replace H := f_iconst H k99_5 (v := -1) (by decide)
  have Hbr := f_icmp_eq H k99_6 (t := 11) (by decide)
  clear H
  rcases Hbr with ⟨c0, H⟩ | ⟨c0, H⟩
  · subst c0
    replace H := f_iconst H k99_11 (v := -1) (by decide)
    replace H := f_istore_n H k99_12 (l2 := [(2, .int (-1)), (0, .ref 0), (1, .int z)]) rfl
    replace H := f_iload_n H k99_13 rfl
    have Hbr := f_if_ne H k99_14 (t := 25) (by decide)
    clear H
    rcases Hbr with ⟨c1, H⟩ | ⟨c1, H⟩
    · replace H := f_iload_n H k99_25 rfl
      replace H := f_iconst H k99_26 (v := 1) (by decide)
      have Hbr := f_icmp_ne H k99_27 (t := 45) (by decide)
      clear H
      rcases Hbr with ⟨c2, H⟩ | ⟨c2, H⟩
      · replace H := f_iload_n H k99_45 rfl
        replace H := f_iconst H k99_46 (v := 2) (by decide)
        have Hbr := f_icmp_ne H k99_47 (t := 58) (by decide)
        clear H
        rcases Hbr with ⟨c3, H⟩ | ⟨c3, H⟩
        · exfalso
          rcases fa with ⟨q, -⟩ | ⟨q, -⟩ | ⟨q, -⟩ | ⟨-, -, -, q⟩
          · exact c1 q
          · exact c2 q
          · exact c3 q
          · exact absurd q (by decide)
        · -- a walk
          subst c3
          obtain ⟨w1, w2, w3⟩ := f2 rfl
          replace H := f_aload_n H k99_50 rfl
          replace H := f_gr H k99_51 (ci := 11) (f := 5) (x := 55) (by decide +kernel) (by decide) (hr 0 5 55 rfl)
          obtain ⟨rv, m2, ho, h9_54⟩ := f_inv H k99_54 (by decide +kernel) (as := []) (b := 55) (r := []) (by rfl) (c_addDraft hr gK hK4)
          replace H := h9_54
          rcases ho with ⟨e4, rfl, rfl⟩ | ⟨e4, rfl, x1, x2, x3, x4, x5⟩
          · replace H := f_istore_n H k99_57 (l2 := [(2, .int _), (0, .ref 0), (1, .int 2)]) rfl
            replace H := f_iload_n H k99_58 rfl
            replace H := f_iconst H k99_59 (v := -1) (by decide)
            replace H := f_icmp_eq_t H k99_60 rfl (t := 71) (by decide)
            replace H := f_iload_n H k99_71 rfl
            replace H := f_iret H k99_72
            exact ⟨_, _, H, Or.inl ⟨Or.inr (Or.inr ⟨rfl, e4⟩), rfl, g1, g3, gL, gK⟩, g2, fun _ _ q => by omega, fun k hk => ⟨hf 61 k (by omega), fun i => hf _ i (by omega)⟩⟩
          · have hr : rS m2 := fun a i b e => by rw [x2]; exact hr a i b e
            have nK : ¬ nI K = -1 := nI_n1 (N := 4) hK4 (by decide)
            replace H := f_istore_n H k99_57 (l2 := [(2, .int _), (0, .ref 0), (1, .int 2)]) rfl
            replace H := f_iload_n H k99_58 rfl
            replace H := f_iconst H k99_59 (v := -1) (by decide)
            replace H := f_icmp_eq_f H k99_60 nK
            replace H := f_aload_n H k99_63 rfl
            replace H := f_gr H k99_64 (ci := 11) (f := 0) (x := 1) (by decide +kernel) (by decide) (hr 0 0 1 rfl)
            replace H := f_iconst H k99_67 (v := 0) (by decide)
            replace H := f_put_i H k99_68 (ci := 8) (f := 1) (by decide +kernel) (by decide)
            replace H := f_iload_n H k99_71 rfl
            replace H := f_iret H k99_72
            refine ⟨_, _, H, Or.inr (Or.inr (Or.inr ⟨fa, rfl, e4, rfl, mI_at, ?_, ?_, ?_⟩)), ?_, fun _ _ _ => ⟨?_, w3, fun i hi => ?_⟩, fun k hk => ⟨?_, fun i => ?_⟩⟩
            · rw [mI_ne (by omega), x5 3 1 (by omega) (by omega) (by omega)]; exact g3
            · rw [mI_ne (by omega), x5 47 4 (by omega) (by omega) (by omega)]; exact gL
            · rw [mI_ne (by omega)]; exact x1
            · rw [← g2]; exact funext fun j => by rw [mI_ne (by omega), x5 2 j (by omega) (by omega) (by omega)]
            · rw [mI_ne (by omega), x3]; exact w1
            · rw [mI_ne (by omega), x4 i (by omega)]; exact w2 i hi
            · rw [mI_ne (by omega), x5 61 k (by omega) (by omega) (by omega)]; exact hf 61 k (by omega)
            · rw [mI_ne (by omega), x5 _ i (by omega) (by omega) (by omega)]; exact hf _ i (by omega)
      · -- a law
        subst c2
        replace H := f_aload_n H k99_30 rfl
        replace H := f_gr H k99_31 (ci := 11) (f := 4) (x := 47) (by decide +kernel) (by decide) (hr 0 4 47 rfl)
        replace H := f_aload_n H k99_34 rfl
        replace H := f_gr H k99_35 (ci := 11) (f := 3) (x := 45) (by decide +kernel) (by decide) (hr 0 3 45 rfl)
        obtain ⟨rv, m2, ho, h9_38⟩ := f_inv H k99_38 (by decide +kernel) (as := [.ref 45]) (b := 47) (r := []) (by rfl) (c_addFrom hr gL hL4)
        replace H := h9_38
        rcases ho with ⟨e4, rfl, rfl⟩ | ⟨e4, rfl, x1, x2, x5⟩
        · replace H := f_istore_n H k99_41 (l2 := [(2, .int _), (0, .ref 0), (1, .int 1)]) rfl
          replace H := f_goto H k99_42 (t := 58) (by decide)
          replace H := f_iload_n H k99_58 rfl
          replace H := f_iconst H k99_59 (v := -1) (by decide)
          replace H := f_icmp_eq_t H k99_60 rfl (t := 71) (by decide)
          replace H := f_iload_n H k99_71 rfl
          replace H := f_iret H k99_72
          exact ⟨_, _, H, Or.inl ⟨Or.inr (Or.inl ⟨rfl, e4⟩), rfl, g1, g3, gL, gK⟩, g2, fun q => absurd q (by decide), fun k hk => ⟨hf 61 k (by omega), fun i => hf _ i (by omega)⟩⟩
        · have hr : rS m2 := fun a i b e => by rw [x2]; exact hr a i b e
          have nL : ¬ nI L = -1 := nI_n1 (N := 4) hL4 (by decide)
          replace H := f_istore_n H k99_41 (l2 := [(2, .int _), (0, .ref 0), (1, .int 1)]) rfl
          replace H := f_goto H k99_42 (t := 58) (by decide)
          replace H := f_iload_n H k99_58 rfl
          replace H := f_iconst H k99_59 (v := -1) (by decide)
          replace H := f_icmp_eq_f H k99_60 nL
          replace H := f_aload_n H k99_63 rfl
          replace H := f_gr H k99_64 (ci := 11) (f := 0) (x := 1) (by decide +kernel) (by decide) (hr 0 0 1 rfl)
          replace H := f_iconst H k99_67 (v := 0) (by decide)
          replace H := f_put_i H k99_68 (ci := 8) (f := 1) (by decide +kernel) (by decide)
          replace H := f_iload_n H k99_71 rfl
          replace H := f_iret H k99_72
          refine ⟨_, _, H, Or.inr (Or.inr (Or.inl ⟨fa, rfl, e4, rfl, mI_at, ?_, ?_, ?_⟩)), ?_, fun q => absurd q (by decide), fun k hk => ⟨?_, fun i => ?_⟩⟩
          · rw [mI_ne (by omega), x5 3 1 (by omega) (by omega)]; exact g3
          · rw [mI_ne (by omega)]; exact x1
          · rw [mI_ne (by omega), x5 55 4 (by omega) (by omega)]; exact gK
          · rw [← g2]; exact funext fun j => by rw [mI_ne (by omega), x5 2 j (by omega) (by omega)]
          · rw [mI_ne (by omega), x5 61 k (by omega) (by omega)]; exact hf 61 k (by omega)
          · rw [mI_ne (by omega), x5 _ i (by omega) (by omega)]; exact hf _ i (by omega)
    · -- a town
      subst c1
      obtain ⟨S, f, q1, q2, q3⟩ := f0 rfl rfl
      have e1 : m1.1 24 1 = nI S.1 := q2.1.1
      have s12 : S.1 ≤ 12 := q2.1.2.2.2.2.2.2.1
      replace H := f_aload_n H k99_17 rfl
      obtain ⟨rv, m2, ⟨⟨rfl, -, -, -, m3, b1, b2⟩, hI2, -⟩, h9_18⟩ := f_inv H k99_18 (by decide +kernel) (as := []) (b := 0) (r := []) (by rfl) (fC_two (c_settle hI1) (fC_vC q107 hI1 jTok ⟨aR_a 0, trivial⟩ gF_nil))
      replace H := h9_18
      have hr : rS m2 := hI2.2
      have nS : ¬ nI S.1 = -1 := nI_n1 (N := 12) s12 (by decide)
      rw [e1] at H
      replace H := f_istore_n H k99_21 (l2 := [(2, .int _), (0, .ref 0), (1, .int 0)]) rfl
      replace H := f_goto H k99_22 (t := 58) (by decide)
      replace H := f_iload_n H k99_58 rfl
      replace H := f_iconst H k99_59 (v := -1) (by decide)
      replace H := f_icmp_eq_f H k99_60 nS
      replace H := f_aload_n H k99_63 rfl
      replace H := f_gr H k99_64 (ci := 11) (f := 0) (x := 1) (by decide +kernel) (by decide) (hr 0 0 1 rfl)
      replace H := f_iconst H k99_67 (v := 0) (by decide)
      replace H := f_put_i H k99_68 (ci := 8) (f := 1) (by decide +kernel) (by decide)
      replace H := f_iload_n H k99_71 rfl
      replace H := f_iret H k99_72
      have g9 : ∀ a i, ¬ (3 ≤ a ∧ a ≤ 23) → ¬ (89 ≤ a ∧ a ≤ 93) → a ≠ 0 → a ≠ 84 → a ≠ 99 → m2.1 a i = m1.1 a i := fun a i k1 k2 k3 k4 k5 => by rw [b2 a i k2 (by omega) (by omega) (by omega), b1.2.1 a i k1]
      refine ⟨_, _, H, Or.inr (Or.inl ⟨fa, rfl, S, f, q1, rfl, mI_at, ?_, ?_, ?_⟩), ?_, fun q => absurd q (by decide), fun k hk => ⟨?_, fun i => ?_⟩⟩
      · rw [mI_ne (by omega), b2 3 1 (by omega) (by omega) (by omega) (by omega), b1.2.2.1 1 (by omega)]; exact e1
      · rw [mI_ne (by omega), g9 47 4 (by omega) (by omega) (by omega) (by omega) (by omega)]; exact gL
      · rw [mI_ne (by omega), g9 55 4 (by omega) (by omega) (by omega) (by omega) (by omega)]; exact gK
      · rw [← g2]; exact funext fun j => by rw [mI_ne (by omega), g9 2 j (by omega) (by omega) (by omega) (by omega) (by omega)]
      · rw [mI_ne (by omega), g9 61 k (by omega) (by omega) (by omega) (by omega) (by omega)]; exact hf 61 k (by omega)
      · rw [mI_ne (by omega), g9 _ i (by omega) (by omega) (by omega) (by omega) (by omega)]; exact hf _ i (by omega)
  · replace H := f_iconst H k99_9 (v := -1) (by decide)
    replace H := f_iret H k99_10
    exact ⟨_, _, H, Or.inl ⟨Or.inl (fun q => c0 (FA_det fa q)), rfl, g1, g3, gL, gK⟩, g2, fun e q => absurd (FA_det fa q) c0, fun k hk => ⟨hf 61 k (by omega), fun i => hf _ i (by omega)⟩⟩
theorem k128_0 : lkc 0 (kcode 128) = some (.iload_n 1) := by decide +kernel
theorem k128_1 : lkc 1 (kcode 128) = some (.ifCond .lt 14) := by decide +kernel
theorem k128_4 : lkc 4 (kcode 128) = some (.iload_n 1) := by decide +kernel
theorem k128_5 : lkc 5 (kcode 128) = some (.aload_n 0) := by decide +kernel
theorem k128_6 : lkc 6 (kcode 128) = some (.getfield 45) := by decide +kernel
theorem k128_9 : lkc 9 (kcode 128) = some (.getfield 222) := by decide +kernel
theorem k128_12 : lkc 12 (kcode 128) = some (.if_icmp .lt 5) := by decide +kernel
theorem k128_15 : lkc 15 (kcode 128) = some (.iconst (-1)) := by decide +kernel
theorem k128_16 : lkc 16 (kcode 128) = some (.ireturn) := by decide +kernel
theorem k128_17 : lkc 17 (kcode 128) = some (.iload_n 2) := by decide +kernel
theorem k128_18 : lkc 18 (kcode 128) = some (.iconst (-1)) := by decide +kernel
theorem k128_19 : lkc 19 (kcode 128) = some (.if_icmp .ne 13) := by decide +kernel
theorem k128_22 : lkc 22 (kcode 128) = some (.aload_n 0) := by decide +kernel
theorem k128_23 : lkc 23 (kcode 128) = some (.getfield 45) := by decide +kernel
theorem k128_26 : lkc 26 (kcode 128) = some (.getfield 299) := by decide +kernel
theorem k128_29 : lkc 29 (kcode 128) = some (.iload_n 1) := by decide +kernel
theorem k128_30 : lkc 30 (kcode 128) = some (.iaload) := by decide +kernel
theorem k128_31 : lkc 31 (kcode 128) = some (.ireturn) := by decide +kernel
theorem k128_32 : lkc 32 (kcode 128) = some (.iload_n 2) := by decide +kernel
theorem k128_33 : lkc 33 (kcode 128) = some (.ifCond .lt 16) := by decide +kernel
theorem k128_36 : lkc 36 (kcode 128) = some (.iload_n 2) := by decide +kernel
theorem k128_37 : lkc 37 (kcode 128) = some (.aload_n 0) := by decide +kernel
theorem k128_38 : lkc 38 (kcode 128) = some (.getfield 45) := by decide +kernel
theorem k128_41 : lkc 41 (kcode 128) = some (.getfield 299) := by decide +kernel
theorem k128_44 : lkc 44 (kcode 128) = some (.iload_n 1) := by decide +kernel
theorem k128_45 : lkc 45 (kcode 128) = some (.iaload) := by decide +kernel
theorem k128_46 : lkc 46 (kcode 128) = some (.if_icmp .lt 7) := by decide +kernel
theorem k128_49 : lkc 49 (kcode 128) = some (.iconst (-1)) := by decide +kernel
theorem k128_50 : lkc 50 (kcode 128) = some (.goto 14) := by decide +kernel
theorem k128_53 : lkc 53 (kcode 128) = some (.aload_n 0) := by decide +kernel
theorem k128_54 : lkc 54 (kcode 128) = some (.getfield 45) := by decide +kernel
theorem k128_57 : lkc 57 (kcode 128) = some (.getfield 302) := by decide +kernel
theorem k128_60 : lkc 60 (kcode 128) = some (.iload_n 1) := by decide +kernel
theorem k128_61 : lkc 61 (kcode 128) = some (.aaload) := by decide +kernel
theorem k128_62 : lkc 62 (kcode 128) = some (.iload_n 2) := by decide +kernel
theorem k128_63 : lkc 63 (kcode 128) = some (.iaload) := by decide +kernel
theorem k128_64 : lkc 64 (kcode 128) = some (.ireturn) := by decide +kernel
theorem k222_0 : lkc 0 (kcode 222) = some (.iload_n 1) := by decide +kernel
theorem k222_1 : lkc 1 (kcode 222) = some (.ifCond .lt 15) := by decide +kernel
theorem k222_4 : lkc 4 (kcode 222) = some (.iload_n 1) := by decide +kernel
theorem k222_5 : lkc 5 (kcode 222) = some (.aload_n 0) := by decide +kernel
theorem k222_6 : lkc 6 (kcode 222) = some (.getfield 275) := by decide +kernel
theorem k222_9 : lkc 9 (kcode 222) = some (.if_icmp .ge 7) := by decide +kernel
theorem k222_12 : lkc 12 (kcode 222) = some (.iconst 1) := by decide +kernel
theorem k222_13 : lkc 13 (kcode 222) = some (.goto 4) := by decide +kernel
theorem k222_16 : lkc 16 (kcode 222) = some (.iconst 0) := by decide +kernel
theorem k222_17 : lkc 17 (kcode 222) = some (.ireturn) := by decide +kernel
theorem k223_0 : lkc 0 (kcode 223) = some (.aload_n 0) := by decide +kernel
theorem k223_1 : lkc 1 (kcode 223) = some (.iconst 0) := by decide +kernel
theorem k223_2 : lkc 2 (kcode 223) = some (.putfield 90) := by decide +kernel
theorem k223_5 : lkc 5 (kcode 223) = some (.aload_n 0) := by decide +kernel
theorem k223_6 : lkc 6 (kcode 223) = some (.iload_n 1) := by decide +kernel
theorem k223_7 : lkc 7 (kcode 223) = some (.invokevirtual 392) := by decide +kernel
theorem k223_10 : lkc 10 (kcode 223) = some (.ifCond .eq 23) := by decide +kernel
theorem k223_13 : lkc 13 (kcode 223) = some (.iload_n 2) := by decide +kernel
theorem k223_14 : lkc 14 (kcode 223) = some (.i2l) := by decide +kernel
theorem k223_15 : lkc 15 (kcode 223) = some (.ldc2_w 395) := by decide +kernel
theorem k223_18 : lkc 18 (kcode 223) = some (.aload_n 0) := by decide +kernel
theorem k223_19 : lkc 19 (kcode 223) = some (.getfield 55) := by decide +kernel
theorem k223_22 : lkc 22 (kcode 223) = some (.iload_n 1) := by decide +kernel
theorem k223_23 : lkc 23 (kcode 223) = some (.iaload) := by decide +kernel
theorem k223_24 : lkc 24 (kcode 223) = some (.iconst 1) := by decide +kernel
theorem k223_25 : lkc 25 (kcode 223) = some (.isub) := by decide +kernel
theorem k223_26 : lkc 26 (kcode 223) = some (.i2l) := by decide +kernel
theorem k223_27 : lkc 27 (kcode 223) = some (.invokestatic 211) := by decide +kernel
theorem k223_30 : lkc 30 (kcode 223) = some (.ifCond .ne 5) := by decide +kernel
theorem k223_33 : lkc 33 (kcode 223) = some (.iconst (-1)) := by decide +kernel
theorem k223_34 : lkc 34 (kcode 223) = some (.ireturn) := by decide +kernel
theorem k223_35 : lkc 35 (kcode 223) = some (.iload_n 2) := by decide +kernel
theorem k223_36 : lkc 36 (kcode 223) = some (.iconst (-1)) := by decide +kernel
theorem k223_37 : lkc 37 (kcode 223) = some (.if_icmp .ne 12) := by decide +kernel
theorem k223_40 : lkc 40 (kcode 223) = some (.aload_n 0) := by decide +kernel
theorem k223_41 : lkc 41 (kcode 223) = some (.getfield 55) := by decide +kernel
theorem k223_44 : lkc 44 (kcode 223) = some (.iload_n 1) := by decide +kernel
theorem k223_45 : lkc 45 (kcode 223) = some (.iaload) := by decide +kernel
theorem k223_46 : lkc 46 (kcode 223) = some (.goto 14) := by decide +kernel
theorem k223_49 : lkc 49 (kcode 223) = some (.aload_n 0) := by decide +kernel
theorem k223_50 : lkc 50 (kcode 223) = some (.getfield 52) := by decide +kernel
theorem k223_53 : lkc 53 (kcode 223) = some (.bipush 16) := by decide +kernel
theorem k223_55 : lkc 55 (kcode 223) = some (.iload_n 1) := by decide +kernel
theorem k223_56 : lkc 56 (kcode 223) = some (.imul) := by decide +kernel
theorem k223_57 : lkc 57 (kcode 223) = some (.iload_n 2) := by decide +kernel
theorem k223_58 : lkc 58 (kcode 223) = some (.iadd) := by decide +kernel
theorem k223_59 : lkc 59 (kcode 223) = some (.iaload) := by decide +kernel
theorem k223_60 : lkc 60 (kcode 223) = some (.ireturn) := by decide +kernel
/-! forward: walk, both sides -/
def wkF (K : Nat) (len : Nat → Int32) (stop : Nat → Nat → Int32) (z i : Int32) : Int32 := if z < 0 ∨ ¬ z < nI K then -1 else if i = -1 then len z.toNatClampNeg else if i < 0 ∨ ¬ i < len z.toNatClampNeg then -1 else stop z.toNatClampNeg i.toNatClampNeg
theorem z_nI {z : Int32} {K : Nat} (hK : K ≤ 1000) (h0 : ¬ z < 0) (h1 : z < nI K) : ∃ k, k < K ∧ z = nI k := by
  rw [Int32.lt_iff_toInt_lt, show (0 : Int32).toInt = 0 by decide] at h0
  rw [Int32.lt_iff_toInt_lt, nI_toInt (by omega)] at h1
  exact ⟨z.toInt.toNat, by omega, Int32.toInt_inj.mp (by rw [nI_toInt (by omega)]; omega)⟩
theorem c_walk {m : xM} {K : Nat} {z i : Int32} (hr : rS m) (hK : m.1 55 4 = nI K) (hK4 : K ≤ 4) : fC 128 [.ref 0, .int z, .int i] m (fun rv m' => rv = some (.int (wkF K (m.1 61) (fun k i => m.1 (57 + k) i) z i)) ∧ m' = m) := by
  refine fC_of (by decide) (fun d n P H => ?_)
  have neg : ∀ n, (z < 0 ∨ ¬ z < nI K) → xF 128 (xw d) P n 15 [(0, .ref 0), (1, .int z), (2, .int i)] [] m → ∃ rv m', P rv m' ∧ rv = some (.int (wkF K (m.1 61) (fun k i => m.1 (57 + k) i) z i)) ∧ m' = m := by
    intro n h H
    replace H := f_iconst H k128_15 (v := -1) (by decide)
    replace H := f_iret H k128_16
    exact ⟨_, _, H, by unfold wkF; rw [if_pos h], rfl⟩
  replace H := f_iload_n H k128_0 rfl
  have Hbr := f_if_lt H k128_1 (t := 15) (by decide)
  clear H
  rcases Hbr with ⟨c0, H⟩ | ⟨c0, H⟩
  · exact neg _ (Or.inl c0) H
  · replace H := f_iload_n H k128_4 rfl
    replace H := f_aload_n H k128_5 rfl
    replace H := f_gr H k128_6 (ci := 11) (f := 5) (x := 55) (by decide +kernel) (by decide) (hr 0 5 55 rfl)
    replace H := f_gi H k128_9 (ci := 9) (f := 4) (by decide +kernel) (by decide)
    rw [hK] at H
    have Hbr := f_icmp_lt H k128_12 (t := 17) (by decide)
    clear H
    rcases Hbr with ⟨c1, H⟩ | ⟨c1, H⟩
    · obtain ⟨k, hk, rfl⟩ := z_nI (by omega) c0 c1
      have hcl : (nI k).toNatClampNeg = k := nI_clamp (by omega)
      have hno : ¬ (nI k < 0 ∨ ¬ nI k < nI K) := fun q => q.elim c0 (fun w => w c1)
      obtain ⟨-, -, y1, y2⟩ := rw_l4 ⟨k, by omega⟩
      replace y1 : lay (57 + k) = (0, 0, 16) := y1
      replace y2 : tR 56 k = some (57 + k) := y2
      replace H := f_iload_n H k128_17 rfl
      replace H := f_iconst H k128_18 (v := -1) (by decide)
      have Hbr := f_icmp_ne H k128_19 (t := 32) (by decide)
      clear H
      rcases Hbr with ⟨c2, H⟩ | ⟨c2, H⟩
      · replace H := f_iload_n H k128_32 rfl
        have Hbr := f_if_lt H k128_33 (t := 49) (by decide)
        clear H
        rcases Hbr with ⟨c3, H⟩ | ⟨c3, H⟩
        · replace H := f_iconst H k128_49 (v := -1) (by decide)
          replace H := f_goto H k128_50 (t := 64) (by decide)
          replace H := f_iret H k128_64
          refine ⟨_, _, H, ?_, rfl⟩
          unfold wkF
          rw [if_neg hno, if_neg c2, if_pos (Or.inl c3)]
        · replace H := f_iload_n H k128_36 rfl
          replace H := f_aload_n H k128_37 rfl
          replace H := f_gr H k128_38 (ci := 11) (f := 5) (x := 55) (by decide +kernel) (by decide) (hr 0 5 55 rfl)
          replace H := f_gr H k128_41 (ci := 9) (f := 1) (x := 61) (by decide +kernel) (by decide) (hr 55 1 61 rfl)
          replace H := f_iload_n H k128_44 rfl
          have Hob := f_iald H k128_45 (c := 4) (by decide)
          clear H
          obtain ⟨hb45, H⟩ := Hob
          rw [hcl] at H
          have Hbr := f_icmp_lt H k128_46 (t := 53) (by decide)
          clear H
          rcases Hbr with ⟨c4, H⟩ | ⟨c4, H⟩
          · generalize hR : 57 + k = R at *
            replace H := f_aload_n H k128_53 rfl
            replace H := f_gr H k128_54 (ci := 11) (f := 5) (x := 55) (by decide +kernel) (by decide) (hr 0 5 55 rfl)
            replace H := f_gr H k128_57 (ci := 9) (f := 0) (x := 56) (by decide +kernel) (by decide) (hr 55 0 56 rfl)
            replace H := f_iload_n H k128_60 rfl
            have Hob := f_aald H k128_61 (x := 6) (c := 4) (v := .ref R) (by decide) ((by rw [hcl, hr 56 k R y2]; rfl))
            clear H
            obtain ⟨hb61, H⟩ := Hob
            replace H := f_iload_n H k128_62 rfl
            have Hob := f_iald H k128_63 (c := 16) y1
            clear H
            obtain ⟨hb63, H⟩ := Hob
            replace H := f_iret H k128_64
            subst hR
            refine ⟨_, _, H, ?_, rfl⟩
            unfold wkF
            rw [if_neg hno, if_neg c2, hcl, if_neg (fun q => q.elim c3 (fun w => w c4))]
          · replace H := f_iconst H k128_49 (v := -1) (by decide)
            replace H := f_goto H k128_50 (t := 64) (by decide)
            replace H := f_iret H k128_64
            refine ⟨_, _, H, ?_, rfl⟩
            unfold wkF
            rw [if_neg hno, if_neg c2, hcl, if_pos (Or.inr c4)]
      · replace H := f_aload_n H k128_22 rfl
        replace H := f_gr H k128_23 (ci := 11) (f := 5) (x := 55) (by decide +kernel) (by decide) (hr 0 5 55 rfl)
        replace H := f_gr H k128_26 (ci := 9) (f := 1) (x := 61) (by decide +kernel) (by decide) (hr 55 1 61 rfl)
        replace H := f_iload_n H k128_29 rfl
        have Hob := f_iald H k128_30 (c := 4) (by decide)
        clear H
        obtain ⟨hb30, H⟩ := Hob
        rw [hcl] at H
        replace H := f_iret H k128_31
        refine ⟨_, _, H, ?_, rfl⟩
        unfold wkF
        rw [if_neg hno, if_pos c2, hcl]
    · exact neg _ (Or.inr c1) H
theorem c_isWalk {m : xM} {K : Nat} {z : Int32} (hK : m.1 314 30 = nI K) : fC 222 [.ref 314, .int z] m (fun rv m' => (((¬ z < 0 ∧ z < nI K) ∧ rv = some (.int 1)) ∨ (¬ (¬ z < 0 ∧ z < nI K) ∧ rv = some (.int 0))) ∧ m = m') := by
  refine fC_of (by decide) (fun d n P H => ?_)
  have neg : ∀ n, ¬ (¬ z < 0 ∧ z < nI K) → xF 222 (xw d) P n 16 [(0, .ref 314), (1, .int z)] [] m → ∃ rv m', P rv m' ∧ (((¬ z < 0 ∧ z < nI K) ∧ rv = some (.int 1)) ∨ (¬ (¬ z < 0 ∧ z < nI K) ∧ rv = some (.int 0))) ∧ m = m' := by
    intro n h H
    replace H := f_iconst H k222_16 (v := 0) (by decide)
    replace H := f_iret H k222_17
    exact ⟨_, _, H, Or.inr ⟨h, rfl⟩, rfl⟩
  replace H := f_iload_n H k222_0 rfl
  have Hbr := f_if_lt H k222_1 (t := 16) (by decide)
  clear H
  rcases Hbr with ⟨c0, H⟩ | ⟨c0, H⟩
  · exact neg _ (fun q => q.1 c0) H
  · replace H := f_iload_n H k222_4 rfl
    replace H := f_aload_n H k222_5 rfl
    replace H := f_gi H k222_6 (ci := 12) (f := 30) (by decide +kernel) (by decide)
    rw [hK] at H
    have Hbr := f_icmp_ge H k222_9 (t := 16) (by decide)
    clear H
    rcases Hbr with ⟨c1, H⟩ | ⟨c1, H⟩
    · exact neg _ (fun q => by rw [Int32.le_iff_toInt_le] at c1; have := Int32.lt_iff_toInt_lt.mp q.2; omega) H
    · replace H := f_iconst H k222_12 (v := 1) (by decide)
      replace H := f_goto H k222_13 (t := 17) (by decide)
      replace H := f_iret H k222_17
      refine ⟨_, _, H, Or.inl ⟨⟨c0, ?_⟩, rfl⟩, rfl⟩
      rw [Int32.le_iff_toInt_le] at c1
      rw [Int32.lt_iff_toInt_lt]
      omega
theorem c_mwalk {m : xM} {K : Nat} {z i : Int32} (hr : rS m) (hK : m.1 314 30 = nI K) (hK4 : K ≤ 4) (hlen : ∀ k, k < K → ∃ n, n ≤ 16 ∧ m.1 325 k = nI n) : fC 223 [.ref 314, .int z, .int i] m (fun rv m' => rv = some (.int (wkF K (m.1 325) (fun k i => m.1 324 (16 * k + i)) z i)) ∧ m' = mI m 314 0 0) := by
  refine fC_of (by decide) (fun d n P H => ?_)
  have e325 : ∀ k, (mI m 314 0 0).1 325 k = m.1 325 k := fun k => mI_ne (by omega)
  have e324 : ∀ k, (mI m 314 0 0).1 324 k = m.1 324 k := fun k => mI_ne (by omega)
  have hK' : (mI m 314 0 0).1 314 30 = nI K := by rw [mI_ne (by omega)]; exact hK
  have hr' : rS (mI m 314 0 0) := hr
  replace H := f_aload_n H k223_0 rfl
  replace H := f_iconst H k223_1 (v := 0) (by decide)
  replace H := f_put_i H k223_2 (ci := 12) (f := 0) (by decide +kernel) (by decide)
  generalize hm1 : mI m 314 0 0 = m1 at *
  have hr := hr'
  have neg : ∀ n, wkF K (m.1 325) (fun k i => m.1 324 (16 * k + i)) z i = -1 → xF 223 (xw d) P n 33 [(0, .ref 314), (1, .int z), (2, .int i)] [] m1 → ∃ rv m', P rv m' ∧ rv = some (.int (wkF K (m.1 325) (fun k i => m.1 324 (16 * k + i)) z i)) ∧ m' = m1 := by
    intro n h H
    replace H := f_iconst H k223_33 (v := -1) (by decide)
    replace H := f_iret H k223_34
    exact ⟨_, _, H, by rw [h], rfl⟩
  replace H := f_aload_n H k223_5 rfl
  replace H := f_iload_n H k223_6 rfl
  obtain ⟨rv, m2, ⟨ho, e3⟩, h9_7⟩ := f_inv H k223_7 (by decide +kernel) (as := [.int _]) (b := 314) (r := []) (by rfl) (c_isWalk hK')
  replace H := h9_7
  rw [← e3] at H
  clear e3
  rcases ho with ⟨⟨c0, c1⟩, rfl⟩ | ⟨c0, rfl⟩
  case inr =>
    replace H := f_if_eq_t H k223_10 rfl (t := 33) (by decide)
    refine neg _ ?_ H
    unfold wkF
    rw [if_pos]
    by_cases q : z < 0
    · exact Or.inl q
    · exact Or.inr (fun w => c0 ⟨q, w⟩)
  replace H := f_if_eq_f H k223_10 (by decide)
  obtain ⟨k, hk, rfl⟩ := z_nI (by omega) c0 c1
  have hcl : (nI k).toNatClampNeg = k := nI_clamp (by omega)
  have hno : ¬ (nI k < 0 ∨ ¬ nI k < nI K) := fun q => q.elim c0 (fun w => w c1)
  obtain ⟨n9, hn9, en⟩ := hlen k hk
  have hsub : (nI n9 - 1).toInt = (n9 : Int) - 1 := by
    rw [Int32.toInt_sub, nI_toInt (by omega), show (1 : Int32).toInt = 1 by decide]
    exact Int.bmod_eq_of_le (by omega) (by omega)
  replace H := f_iload_n H k223_13 rfl
  replace H := f_i2l H k223_14
  replace H := f_ldc2 H k223_15 (v := -1) (by decide +kernel)
  replace H := f_aload_n H k223_18 rfl
  replace H := f_gr H k223_19 (ci := 12) (f := 24) (x := 325) (by decide +kernel) (by decide) (hr 314 24 325 rfl)
  replace H := f_iload_n H k223_22 rfl
  have Hob := f_iald H k223_23 (c := 5) (by decide)
  clear H
  obtain ⟨hb23, H⟩ := Hob
  replace H := f_iconst H k223_24 (v := 1) (by decide)
  replace H := f_isub H k223_25
  replace H := f_i2l H k223_26
  rw [hcl, e325, en] at H
  obtain ⟨rv, m2, ⟨ho, e3⟩, h9_27⟩ := f_ins H k223_27 (by decide +kernel) (as := [.long _, .long _, .long _]) (r := []) (by rfl) (c_isInK (v := i) (l := -1) (mo := nI n9 - 1) (by decide) rfl)
  replace H := h9_27
  rw [← e3] at H
  clear e3
  have k1 : (-1 : Int32).toInt = -1 := by decide
  rcases ho with ⟨o1, o2, rfl⟩ | ⟨o1, rfl⟩
  · replace H := f_if_ne_t H k223_30 (by decide) (t := 35) (by decide)
    rw [Int32.le_iff_toInt_le] at o1 o2
    rw [k1] at o1
    rw [hsub] at o2
    replace H := f_iload_n H k223_35 rfl
    replace H := f_iconst H k223_36 (v := -1) (by decide)
    have Hbr := f_icmp_ne H k223_37 (t := 49) (by decide)
    clear H
    rcases Hbr with ⟨c2, H⟩ | ⟨c2, H⟩
    · have hi0 : ¬ i < 0 := fun q => by
        rw [Int32.lt_iff_toInt_lt, show (0 : Int32).toInt = 0 by decide] at q
        exact c2 (Int32.toInt_inj.mp (by rw [k1]; omega))
      have hi1 : i < nI n9 := by rw [Int32.lt_iff_toInt_lt, nI_toInt (by omega)]; omega
      obtain ⟨j, hj, rfl⟩ := z_nI (by omega) hi0 hi1
      have hcj : (nI j).toNatClampNeg = j := nI_clamp (by omega)
      replace H := f_aload_n H k223_49 rfl
      replace H := f_gr H k223_50 (ci := 12) (f := 23) (x := 324) (by decide +kernel) (by decide) (hr 314 23 324 rfl)
      replace H := f_bipush H k223_53 (v := 16) (by decide)
      replace H := f_iload_n H k223_55 rfl
      replace H := f_imul H k223_56
      replace H := f_iload_n H k223_57 rfl
      replace H := f_iadd H k223_58
      rw [show (16 : Int32) * nI k = nI (16 * k) from (Int32.ofNat_mul 16 k).symm, show nI (16 * k) + nI j = nI (16 * k + j) from r_ad _ _] at H
      have Hob := f_iald H k223_59 (c := 80) (by decide)
      clear H
      obtain ⟨hb59, H⟩ := Hob
      rw [nI_clamp (by omega), e324] at H
      replace H := f_iret H k223_60
      refine ⟨_, _, H, ?_, rfl⟩
      unfold wkF
      rw [if_neg hno, if_neg c2, hcl, en, if_neg (fun q => q.elim hi0 (fun w => w hi1)), hcj]
    · replace H := f_aload_n H k223_40 rfl
      replace H := f_gr H k223_41 (ci := 12) (f := 24) (x := 325) (by decide +kernel) (by decide) (hr 314 24 325 rfl)
      replace H := f_iload_n H k223_44 rfl
      have Hob := f_iald H k223_45 (c := 5) (by decide)
      clear H
      obtain ⟨hb45, H⟩ := Hob
      replace H := f_goto H k223_46 (t := 60) (by decide)
      rw [hcl, e325] at H
      replace H := f_iret H k223_60
      refine ⟨_, _, H, ?_, rfl⟩
      unfold wkF
      rw [if_neg hno, if_pos c2, hcl]
  · replace H := f_if_ne_f H k223_30 rfl
    refine neg _ ?_ H
    unfold wkF
    have c2 : ¬ i = -1 := fun q => by
      rw [q, Int32.lt_iff_toInt_lt, Int32.lt_iff_toInt_lt, hsub, k1] at o1
      omega
    rw [if_neg hno, if_neg c2, hcl, en, if_pos]
    rw [Int32.lt_iff_toInt_lt, Int32.lt_iff_toInt_lt, hsub, k1] at o1
    rw [Int32.lt_iff_toInt_lt, Int32.lt_iff_toInt_lt, nI_toInt (by omega), show (0 : Int32).toInt = 0 by decide]
    omega
