theorem k155_0 : lkc 0 (kcode 155) = some (.lload_n 0) := by decide +kernel
theorem k155_1 : lkc 1 (kcode 155) = some (.lload_n 2) := by decide +kernel
theorem k155_2 : lkc 2 (kcode 155) = some (.lcmp) := by decide +kernel
theorem k155_3 : lkc 3 (kcode 155) = some (.ifCond .lt 14) := by decide +kernel
theorem k155_6 : lkc 6 (kcode 155) = some (.lload_n 0) := by decide +kernel
theorem k155_7 : lkc 7 (kcode 155) = some (.lload 4) := by decide +kernel
theorem k155_9 : lkc 9 (kcode 155) = some (.lcmp) := by decide +kernel
theorem k155_10 : lkc 10 (kcode 155) = some (.ifCond .gt 7) := by decide +kernel
theorem k155_13 : lkc 13 (kcode 155) = some (.iconst 1) := by decide +kernel
theorem k155_14 : lkc 14 (kcode 155) = some (.goto 4) := by decide +kernel
theorem k155_17 : lkc 17 (kcode 155) = some (.iconst 0) := by decide +kernel
theorem k155_18 : lkc 18 (kcode 155) = some (.ireturn) := by decide +kernel
theorem k179_0 : lkc 0 (kcode 179) = some (.aload_n 0) := by decide +kernel
theorem k179_1 : lkc 1 (kcode 179) = some (.getfield 113) := by decide +kernel
theorem k179_4 : lkc 4 (kcode 179) = some (.aload_n 0) := by decide +kernel
theorem k179_5 : lkc 5 (kcode 179) = some (.getfield 116) := by decide +kernel
theorem k179_8 : lkc 8 (kcode 179) = some (.if_icmp .ge 24) := by decide +kernel
theorem k179_11 : lkc 11 (kcode 179) = some (.aload_n 0) := by decide +kernel
theorem k179_12 : lkc 12 (kcode 179) = some (.getfield 23) := by decide +kernel
theorem k179_15 : lkc 15 (kcode 179) = some (.aload_n 0) := by decide +kernel
theorem k179_16 : lkc 16 (kcode 179) = some (.getfield 119) := by decide +kernel
theorem k179_19 : lkc 19 (kcode 179) = some (.aload_n 0) := by decide +kernel
theorem k179_20 : lkc 20 (kcode 179) = some (.getfield 113) := by decide +kernel
theorem k179_23 : lkc 23 (kcode 179) = some (.iadd) := by decide +kernel
theorem k179_24 : lkc 24 (kcode 179) = some (.baload) := by decide +kernel
theorem k179_25 : lkc 25 (kcode 179) = some (.sipush 255) := by decide +kernel
theorem k179_28 : lkc 28 (kcode 179) = some (.iand) := by decide +kernel
theorem k179_29 : lkc 29 (kcode 179) = some (.goto 4) := by decide +kernel
theorem k179_32 : lkc 32 (kcode 179) = some (.iconst (-1)) := by decide +kernel
theorem k179_33 : lkc 33 (kcode 179) = some (.ireturn) := by decide +kernel
theorem k180_0 : lkc 0 (kcode 180) = some (.iconst 0) := by decide +kernel
theorem k180_1 : lkc 1 (kcode 180) = some (.istore_n 2) := by decide +kernel
theorem k180_2 : lkc 2 (kcode 180) = some (.iload_n 2) := by decide +kernel
theorem k180_3 : lkc 3 (kcode 180) = some (.aload_n 0) := by decide +kernel
theorem k180_4 : lkc 4 (kcode 180) = some (.invokevirtual 93) := by decide +kernel
theorem k180_7 : lkc 7 (kcode 180) = some (.if_icmp .ge 20) := by decide +kernel
theorem k180_10 : lkc 10 (kcode 180) = some (.aload_n 0) := by decide +kernel
theorem k180_11 : lkc 11 (kcode 180) = some (.iload_n 2) := by decide +kernel
theorem k180_12 : lkc 12 (kcode 180) = some (.invokevirtual 99) := by decide +kernel
theorem k180_15 : lkc 15 (kcode 180) = some (.iload_n 1) := by decide +kernel
theorem k180_16 : lkc 16 (kcode 180) = some (.if_icmp .ne 5) := by decide +kernel
theorem k180_19 : lkc 19 (kcode 180) = some (.iload_n 2) := by decide +kernel
theorem k180_20 : lkc 20 (kcode 180) = some (.ireturn) := by decide +kernel
theorem k180_21 : lkc 21 (kcode 180) = some (.iinc 2 1) := by decide +kernel
theorem k180_24 : lkc 24 (kcode 180) = some (.goto (-22)) := by decide +kernel
theorem k180_27 : lkc 27 (kcode 180) = some (.iconst (-1)) := by decide +kernel
theorem k180_28 : lkc 28 (kcode 180) = some (.ireturn) := by decide +kernel
theorem k181_0 : lkc 0 (kcode 181) = some (.aload_n 0) := by decide +kernel
theorem k181_1 : lkc 1 (kcode 181) = some (.invokevirtual 132) := by decide +kernel
theorem k181_4 : lkc 4 (kcode 181) = some (.istore_n 3) := by decide +kernel
theorem k181_5 : lkc 5 (kcode 181) = some (.aload_n 0) := by decide +kernel
theorem k181_6 : lkc 6 (kcode 181) = some (.invokevirtual 162) := by decide +kernel
theorem k181_9 : lkc 9 (kcode 181) = some (.ifCond .ne 10) := by decide +kernel
theorem k181_12 : lkc 12 (kcode 181) = some (.aload_n 0) := by decide +kernel
theorem k181_13 : lkc 13 (kcode 181) = some (.invokevirtual 128) := by decide +kernel
theorem k181_16 : lkc 16 (kcode 181) = some (.pop) := by decide +kernel
theorem k181_17 : lkc 17 (kcode 181) = some (.iconst 0) := by decide +kernel
theorem k181_18 : lkc 18 (kcode 181) = some (.ireturn) := by decide +kernel
theorem k181_19 : lkc 19 (kcode 181) = some (.iload_n 3) := by decide +kernel
theorem k181_20 : lkc 20 (kcode 181) = some (.bipush 48) := by decide +kernel
theorem k181_22 : lkc 22 (kcode 181) = some (.isub) := by decide +kernel
theorem k181_23 : lkc 23 (kcode 181) = some (.istore 4) := by decide +kernel
theorem k181_25 : lkc 25 (kcode 181) = some (.aload_n 0) := by decide +kernel
theorem k181_26 : lkc 26 (kcode 181) = some (.dup) := by decide +kernel
theorem k181_27 : lkc 27 (kcode 181) = some (.getfield 113) := by decide +kernel
theorem k181_30 : lkc 30 (kcode 181) = some (.iconst 1) := by decide +kernel
theorem k181_31 : lkc 31 (kcode 181) = some (.iadd) := by decide +kernel
theorem k181_32 : lkc 32 (kcode 181) = some (.putfield 113) := by decide +kernel
theorem k181_35 : lkc 35 (kcode 181) = some (.aload_n 0) := by decide +kernel
theorem k181_36 : lkc 36 (kcode 181) = some (.invokevirtual 162) := by decide +kernel
theorem k181_39 : lkc 39 (kcode 181) = some (.ifCond .eq 28) := by decide +kernel
theorem k181_42 : lkc 42 (kcode 181) = some (.bipush 10) := by decide +kernel
theorem k181_44 : lkc 44 (kcode 181) = some (.iload 4) := by decide +kernel
theorem k181_46 : lkc 46 (kcode 181) = some (.imul) := by decide +kernel
theorem k181_47 : lkc 47 (kcode 181) = some (.aload_n 0) := by decide +kernel
theorem k181_48 : lkc 48 (kcode 181) = some (.invokevirtual 208) := by decide +kernel
theorem k181_51 : lkc 51 (kcode 181) = some (.iadd) := by decide +kernel
theorem k181_52 : lkc 52 (kcode 181) = some (.bipush 48) := by decide +kernel
theorem k181_54 : lkc 54 (kcode 181) = some (.isub) := by decide +kernel
theorem k181_55 : lkc 55 (kcode 181) = some (.istore 4) := by decide +kernel
theorem k181_57 : lkc 57 (kcode 181) = some (.aload_n 0) := by decide +kernel
theorem k181_58 : lkc 58 (kcode 181) = some (.dup) := by decide +kernel
theorem k181_59 : lkc 59 (kcode 181) = some (.getfield 113) := by decide +kernel
theorem k181_62 : lkc 62 (kcode 181) = some (.iconst 1) := by decide +kernel
theorem k181_63 : lkc 63 (kcode 181) = some (.iadd) := by decide +kernel
theorem k181_64 : lkc 64 (kcode 181) = some (.putfield 113) := by decide +kernel
theorem k181_67 : lkc 67 (kcode 181) = some (.aload_n 0) := by decide +kernel
theorem k181_68 : lkc 68 (kcode 181) = some (.invokevirtual 162) := by decide +kernel
theorem k181_71 : lkc 71 (kcode 181) = some (.ifCond .eq 10) := by decide +kernel
theorem k181_74 : lkc 74 (kcode 181) = some (.aload_n 0) := by decide +kernel
theorem k181_75 : lkc 75 (kcode 181) = some (.invokevirtual 128) := by decide +kernel
theorem k181_78 : lkc 78 (kcode 181) = some (.pop) := by decide +kernel
theorem k181_79 : lkc 79 (kcode 181) = some (.iconst 0) := by decide +kernel
theorem k181_80 : lkc 80 (kcode 181) = some (.ireturn) := by decide +kernel
theorem k181_81 : lkc 81 (kcode 181) = some (.iload 4) := by decide +kernel
theorem k181_83 : lkc 83 (kcode 181) = some (.i2l) := by decide +kernel
theorem k181_84 : lkc 84 (kcode 181) = some (.iload_n 1) := by decide +kernel
theorem k181_85 : lkc 85 (kcode 181) = some (.i2l) := by decide +kernel
theorem k181_86 : lkc 86 (kcode 181) = some (.iload_n 2) := by decide +kernel
theorem k181_87 : lkc 87 (kcode 181) = some (.i2l) := by decide +kernel
theorem k181_88 : lkc 88 (kcode 181) = some (.invokestatic 211) := by decide +kernel
theorem k181_91 : lkc 91 (kcode 181) = some (.ifCond .ne 18) := by decide +kernel
theorem k181_94 : lkc 94 (kcode 181) = some (.aload_n 0) := by decide +kernel
theorem k181_95 : lkc 95 (kcode 181) = some (.dup) := by decide +kernel
theorem k181_96 : lkc 96 (kcode 181) = some (.getfield 113) := by decide +kernel
theorem k181_99 : lkc 99 (kcode 181) = some (.iconst 1) := by decide +kernel
theorem k181_100 : lkc 100 (kcode 181) = some (.isub) := by decide +kernel
theorem k181_101 : lkc 101 (kcode 181) = some (.putfield 113) := by decide +kernel
theorem k181_104 : lkc 104 (kcode 181) = some (.aload_n 0) := by decide +kernel
theorem k181_105 : lkc 105 (kcode 181) = some (.invokevirtual 128) := by decide +kernel
theorem k181_108 : lkc 108 (kcode 181) = some (.pop) := by decide +kernel
theorem k181_109 : lkc 109 (kcode 181) = some (.iload 4) := by decide +kernel
theorem k181_111 : lkc 111 (kcode 181) = some (.ireturn) := by decide +kernel
/-! forward: the reference's reader of a town's text: look, number, items -/
/-- the reference's reader stands at h of the tape's N bytes, nothing wrong yet -/
def mQ (m : xM) (N h : Nat) (u : Nat → Int32) : Prop := rS m ∧ m.2.2 314 5 = some 315 ∧ m.1 314 8 = 0 ∧ m.1 314 9 = nI N ∧ m.1 314 10 = nI h ∧ m.1 314 11 = -1 ∧ m.1 315 = u ∧ (∀ i, byR (u i)) ∧ N ≤ 240 ∧ h ≤ N
theorem mQ_h {m : xM} {N h h2 : Nat} {u : Nat → Int32} (hm : mQ m N h u) (hh : h2 ≤ N) : mQ (mI m 314 10 (nI h2)) N h2 u := by
  obtain ⟨e0, e1, e2, e3, e4, e5, e7, e8, e9, e10⟩ := hm
  exact ⟨e0, e1, by rw [mI_ne (by omega)]; exact e2, by rw [mI_ne (by omega)]; exact e3, mI_at, by rw [mI_ne (by omega)]; exact e5, by rw [← e7]; exact funext fun j => mI_ne (by omega), e8, e9, hh⟩
/-- nothing but at and fault has changed -/
def agQ (m m' : xM) : Prop := (∀ a i, ¬ (a = 314 ∧ (i = 10 ∨ i = 11)) → m'.1 a i = m.1 a i) ∧ m'.2 = m.2
theorem agQ_tr {m1 m2 m3 : xM} (h1 : agQ m1 m2) (h2 : agQ m2 m3) : agQ m1 m3 := ⟨fun a i hi => (h2.1 a i hi).trans (h1.1 a i hi), h2.2.trans h1.2⟩
theorem agQ_0 {m : xM} : agQ m m := ⟨fun _ _ _ => rfl, rfl⟩
theorem agQ_h {i : Nat} {m : xM} {v : Int32} (hi : i = 10 ∨ i = 11) : agQ m (mI m 314 i v) := ⟨fun a j h => mI_ne (fun z => h ⟨z.1, by omega⟩), rfl⟩
theorem mQ_ag {N h h2 : Nat} {u : Nat → Int32} {m m' : xM} (h1 : mQ m N h u) (hs : (∀ i, (i = 8 ∨ i = 9) → m'.1 314 i = m.1 314 i) ∧ m'.1 315 = m.1 315 ∧ m'.2 = m.2) (h3 : m'.1 314 10 = nI h2) (h4 : m'.1 314 11 = -1) (h5 : h2 ≤ N) : mQ m' N h2 u := by
  obtain ⟨e0, e1, e2, e3, e4, e5, e7, e8, e9, e10⟩ := h1
  exact ⟨rS_2 e0 hs.2.2, by rw [hs.2.2]; exact e1, by rw [hs.1 8 (by omega)]; exact e2, by rw [hs.1 9 (by omega)]; exact e3, h3, h4, by rw [hs.2.1]; exact e7, e8, e9, h5⟩
theorem c_lookQ {m : xM} {N h : Nat} {u : Nat → Int32} (hm : mQ m N h u) : fC 162 [.ref 314] m (fun rv m' => rv = some (.int (atv N (tt u) (sk N (tt u) h))) ∧ m' = mI m 314 10 (nI (sk N (tt u) h))) := by
  refine fC_of (by decide) (fun d n P H => ?_)
  have key : ∀ n h, h ≤ N → xF 162 (xw d) P (n + 1) 0 [(0, .ref 314)] [] (mI m 314 10 (nI h)) → ∃ rv m', P rv m' ∧ rv = some (.int (atv N (tt u) (sk N (tt u) h))) ∧ m' = mI m 314 10 (nI (sk N (tt u) h)) := by
    intro n
    induction n with
    | zero => exact fun h hh H => (xF_0 (f1_aload_n H k162_0 rfl)).elim
    | succ n ih =>
      intro h hh H
      have hm' := mQ_h hm hh
      obtain ⟨hr, htx, e2, e3, e4, e5, e7, e8, e9, -⟩ := id hm'
      have fin : ¬ (h < N ∧ tt u h = 32) → xF 162 (xw d) P (n + 1) 43 [(0, .ref 314)] [] (mI m 314 10 (nI h)) → ∃ rv m', P rv m' ∧ rv = some (.int (atv N (tt u) (sk N (tt u) h))) ∧ m' = mI m 314 10 (nI (sk N (tt u) h)) := by
        intro hc H
        rw [sk_no hc]
        replace H := f_aload_n H k162_43 rfl
        replace H := f_gi H k162_44 (ci := 12) (f := 10) (by decide +kernel) (by decide)
        replace H := f_aload_n H k162_47 rfl
        replace H := f_gi H k162_48 (ci := 12) (f := 9) (by decide +kernel) (by decide)
        rw [e4, e3] at H
        have Hbr := f_icmp_ge H k162_51 (t := 75) (by decide)
        clear H
        rcases Hbr with ⟨c, H⟩ | ⟨c, H⟩
        · rw [nI_lt2 (by omega) (by omega)] at c
          replace H := f_iconst H k162_75 (v := -1) (by decide)
          replace H := f_iret H k162_76
          exact ⟨_, _, H, by rw [atv_e (by omega)], rfl⟩
        · rw [nI_lt2 (by omega) (by omega)] at c
          replace H := f_aload_n H k162_54 rfl
          replace H := f_gr H k162_55 (ci := 12) (f := 5) (x := 315) (by decide +kernel) (by decide) htx
          replace H := f_aload_n H k162_58 rfl
          replace H := f_gi H k162_59 (ci := 12) (f := 8) (by decide +kernel) (by decide)
          replace H := f_aload_n H k162_62 rfl
          replace H := f_gi H k162_63 (ci := 12) (f := 10) (by decide +kernel) (by decide)
          replace H := f_iadd H k162_66
          have Hob := f_bald H k162_67 (c := 240) (by decide)
          clear H
          obtain ⟨hb67, H⟩ := Hob
          replace H := f_sipush H k162_68 (v := 255) (by decide)
          replace H := f_iand H k162_71
          replace H := f_goto H k162_72 (t := 76) (by decide)
          replace H := f_iret H k162_76
          rw [e4, e2, show (0 : Int32) + nI h = nI h from (Int32.zero_add _), nI_clamp (by omega), e7] at H
          exact ⟨_, _, H, by rw [atv_t (by omega)], rfl⟩
      replace H := f1_aload_n H k162_0 rfl
      replace H := f_gi H k162_1 (ci := 12) (f := 10) (by decide +kernel) (by decide)
      replace H := f_aload_n H k162_4 rfl
      replace H := f_gi H k162_5 (ci := 12) (f := 9) (by decide +kernel) (by decide)
      rw [e4, e3] at H
      have Hbr := f_icmp_ge H k162_8 (t := 43) (by decide)
      clear H
      rcases Hbr with ⟨c, H⟩ | ⟨c, H⟩
      · rw [nI_lt2 (by omega) (by omega)] at c
        exact fin (fun z => by omega) H
      · rw [nI_lt2 (by omega) (by omega)] at c
        replace H := f_aload_n H k162_11 rfl
        replace H := f_gr H k162_12 (ci := 12) (f := 5) (x := 315) (by decide +kernel) (by decide) htx
        replace H := f_aload_n H k162_15 rfl
        replace H := f_gi H k162_16 (ci := 12) (f := 8) (by decide +kernel) (by decide)
        replace H := f_aload_n H k162_19 rfl
        replace H := f_gi H k162_20 (ci := 12) (f := 10) (by decide +kernel) (by decide)
        replace H := f_iadd H k162_23
        have Hob := f_bald H k162_24 (c := 240) (by decide)
        clear H
        obtain ⟨hb24, H⟩ := Hob
        replace H := f_bipush H k162_25 (v := 32) (by decide)
        rw [e4, e2, show (0 : Int32) + nI h = nI h from (Int32.zero_add _), nI_clamp (by omega), e7] at H
        have Hbr := f_icmp_ne H k162_27 (t := 43) (by decide)
        clear H
        rcases Hbr with ⟨c, H⟩ | ⟨c, H⟩
        · exact fin (fun z => c ((by_32 (e8 h)).mpr z.2)) H
        · replace H := f_aload_n H k162_30 rfl
          replace H := f_dup H k162_31
          replace H := f_gi H k162_32 (ci := 12) (f := 10) (by decide +kernel) (by decide)
          replace H := f_iconst H k162_35 (v := 1) (by decide)
          replace H := f_iadd H k162_36
          replace H := f_put_i H k162_37 (ci := 12) (f := 10) (by decide +kernel) (by decide)
          replace H := f_goto H k162_40 (t := 0) (by decide)
          rw [e4, nI_s, mI_two] at H
          rw [sk_go (by omega) ((by_32 (e8 h)).mp c)]
          exact ih (h + 1) (by omega) H
  have e : m = mI m 314 10 (nI h) := (mI_self hm.2.2.2.2.1).symm
  rw [e] at H
  exact key n h hm.2.2.2.2.2.2.2.2.2 (f_up H (Nat.le_succ _))
theorem c_here {m : xM} {N h : Nat} {u : Nat → Int32} (hm : mQ m N h u) : fC 179 [.ref 314] m (fun rv m' => rv = some (.int (atv N (tt u) h)) ∧ m = m') := by
  refine fC_of (by decide) (fun d n P H => ?_)
  obtain ⟨hr, htx, e2, e3, e4, e5, e7, e8, e9, e10⟩ := id hm
  replace H := f_aload_n H k179_0 rfl
  replace H := f_gi H k179_1 (ci := 12) (f := 10) (by decide +kernel) (by decide)
  replace H := f_aload_n H k179_4 rfl
  replace H := f_gi H k179_5 (ci := 12) (f := 9) (by decide +kernel) (by decide)
  rw [e4, e3] at H
  have Hbr := f_icmp_ge H k179_8 (t := 32) (by decide)
  clear H
  rcases Hbr with ⟨c, H⟩ | ⟨c, H⟩
  · rw [nI_lt2 (by omega) (by omega)] at c
    replace H := f_iconst H k179_32 (v := -1) (by decide)
    replace H := f_iret H k179_33
    exact ⟨_, _, H, by rw [atv_e (by omega)], rfl⟩
  · rw [nI_lt2 (by omega) (by omega)] at c
    replace H := f_aload_n H k179_11 rfl
    replace H := f_gr H k179_12 (ci := 12) (f := 5) (x := 315) (by decide +kernel) (by decide) htx
    replace H := f_aload_n H k179_15 rfl
    replace H := f_gi H k179_16 (ci := 12) (f := 8) (by decide +kernel) (by decide)
    replace H := f_aload_n H k179_19 rfl
    replace H := f_gi H k179_20 (ci := 12) (f := 10) (by decide +kernel) (by decide)
    replace H := f_iadd H k179_23
    have Hob := f_bald H k179_24 (c := 240) (by decide)
    clear H
    obtain ⟨hb24, H⟩ := Hob
    replace H := f_sipush H k179_25 (v := 255) (by decide)
    replace H := f_iand H k179_28
    replace H := f_goto H k179_29 (t := 33) (by decide)
    replace H := f_iret H k179_33
    rw [e4, e2, show (0 : Int32) + nI h = nI h from (Int32.zero_add _), nI_clamp (by omega), e7] at H
    exact ⟨_, _, H, by rw [atv_t (by omega)], rfl⟩
theorem c_digQ {m : xM} {N h : Nat} {u : Nat → Int32} (hm : mQ m N h u) : fC 166 [.ref 314] m (fun rv m' => ((isDg (atv N (tt u) h) ∧ rv = some (.int 1)) ∨ (¬ isDg (atv N (tt u) h) ∧ rv = some (.int 0))) ∧ m' = m) := by
  obtain ⟨hr, htx, e2, e3, e4, e5, e7, e8, e9, e10⟩ := id hm
  exact c_misDigit hr htx e2 e3 e4 e7 e8 e9 e10
theorem c_spotOf {m : xM} {L x c : Nat} {s : Int32} (hl : lay c = (5, x, L)) (hL : L ≤ 4) : fC 180 [.ref c, .int s] m (fun rv m' => ((∃ i, i < L ∧ rv = some (.int (nI i)) ∧ cst c i = s ∧ ∀ j, j < i → cst c j ≠ s) ∨ (rv = some (.int (-1)) ∧ ∀ j, j < L → cst c j ≠ s)) ∧ m = m') := by
  refine fC_of (by decide) (fun d n P H => ?_)
  have key : ∀ n k, k ≤ L → (∀ j, j < k → cst c j ≠ s) → xF 180 (xw d) P (n + 1) 2 [(2, .int (nI k)), (0, .ref c), (1, .int s)] [] m → ∃ rv m', P rv m' ∧ ((∃ i, i < L ∧ rv = some (.int (nI i)) ∧ cst c i = s ∧ ∀ j, j < i → cst c j ≠ s) ∨ (rv = some (.int (-1)) ∧ ∀ j, j < L → cst c j ≠ s)) ∧ m = m' := by
    intro n
    induction n with
    | zero => exact fun k _ _ H => (xF_0 (f1_iload_n H k180_2 rfl)).elim
    | succ n ih =>
      intro k hk hno H
      replace H := f1_iload_n H k180_2 rfl
      replace H := f_aload_n H k180_3 rfl
      replace H := f_slen H k180_4 (x := x) (c := L) (by decide +kernel) hl
      have Hbr := f_icmp_ge H k180_7 (t := 27) (by decide)
      clear H
      rcases Hbr with ⟨c1, H⟩ | ⟨c1, H⟩
      · rw [nI_lt2 (by omega) (by omega)] at c1
        replace H := f_iconst H k180_27 (v := -1) (by decide)
        replace H := f_iret H k180_28
        exact ⟨_, _, H, Or.inr ⟨rfl, fun j hj => hno j (by omega)⟩, rfl⟩
      · rw [nI_lt2 (by omega) (by omega)] at c1
        replace H := f_aload_n H k180_10 rfl
        replace H := f_iload_n H k180_11 rfl
        have Hob := f_sch H k180_12 (x := x) (c := L) (by decide +kernel) hl
        clear H
        obtain ⟨hb12, H⟩ := Hob
        replace H := f_iload_n H k180_15 rfl
        rw [nI_clamp (by omega)] at H
        have Hbr := f_icmp_ne H k180_16 (t := 21) (by decide)
        clear H
        rcases Hbr with ⟨c2, H⟩ | ⟨c2, H⟩
        · replace H := f_iinc H k180_21 rfl (l2 := [(2, .int (nI k + 1)), (0, .ref c), (1, .int s)]) rfl
          replace H := f_goto H k180_24 (t := 2) (by decide)
          rw [nI_s] at H
          refine ih (k + 1) (by omega) (fun i hi => ?_) H
          by_cases e : i = k
          · rw [e]; exact c2
          · exact hno i (by omega)
        · replace H := f_iload_n H k180_19 rfl
          replace H := f_iret H k180_20
          exact ⟨_, _, H, Or.inl ⟨k, by omega, rfl, c2, hno⟩, rfl⟩
  replace H := f_iconst H k180_0 (v := 0) (by decide)
  replace H := f_istore_n H k180_1 (l2 := [(2, .int 0), (0, .ref c), (1, .int s)]) rfl
  exact key n 0 (by omega) (fun i hi => by omega) (f_up H (Nat.le_succ _))
theorem lg_cmpI (x y : Int32) : (lg_cmp x.toInt64 y.toInt64 < 0 ↔ x < y) ∧ (0 < lg_cmp x.toInt64 y.toInt64 ↔ y < x) := by
  have a1 : x < y ↔ x.toInt < y.toInt := Int32.lt_iff_toInt_lt
  have a2 : y < x ↔ y.toInt < x.toInt := Int32.lt_iff_toInt_lt
  rw [a1, a2]
  have h := cmp_cs x.toInt64 y.toInt64
  rw [Int32.toInt_toInt64, Int32.toInt_toInt64] at h
  rcases h with ⟨h1, h2⟩ | ⟨h1, h2⟩ | ⟨h1, h2⟩
  · rw [h2]
    exact ⟨⟨fun _ => h1, fun _ => by decide⟩, ⟨fun z => absurd z (by decide), fun z => by omega⟩⟩
  · rw [h2]
    exact ⟨⟨fun z => absurd z (by decide), fun z => by omega⟩, ⟨fun z => absurd z (by decide), fun z => by omega⟩⟩
  · rw [h2]
    exact ⟨⟨fun z => absurd z (by decide), fun z => by omega⟩, ⟨fun _ => h1, fun _ => by decide⟩⟩
theorem c_isInI {m : xM} {v l mo : Int32} : fC 155 [.long v.toInt64, .long l.toInt64, .long mo.toInt64] m (fun rv m' => ((l ≤ v ∧ v ≤ mo ∧ rv = some (.int 1)) ∨ ((v < l ∨ mo < v) ∧ rv = some (.int 0))) ∧ m = m') := by
  refine fC_of (by decide) (fun d n P H => ?_)
  replace H := f_lload_n H k155_0 rfl
  replace H := f_lload_n H k155_1 rfl
  replace H := f_lcmp H k155_2
  have Hbr := f_if_lt H k155_3 (t := 17) (by decide)
  clear H
  rcases Hbr with ⟨c, H⟩ | ⟨c, H⟩
  · replace H := f_iconst H k155_17 (v := 0) (by decide)
    replace H := f_iret H k155_18
    exact ⟨_, _, H, Or.inr ⟨Or.inl ((lg_cmpI v l).1.mp c), rfl⟩, rfl⟩
  · replace H := f_lload_n H k155_6 rfl
    replace H := f_lload H k155_7 rfl
    replace H := f_lcmp H k155_9
    have Hbr := f_if_gt H k155_10 (t := 17) (by decide)
    clear H
    rcases Hbr with ⟨c2, H⟩ | ⟨c2, H⟩
    · replace H := f_iconst H k155_17 (v := 0) (by decide)
      replace H := f_iret H k155_18
      exact ⟨_, _, H, Or.inr ⟨Or.inr ((lg_cmpI v mo).2.mp c2), rfl⟩, rfl⟩
    · replace H := f_iconst H k155_13 (v := 1) (by decide)
      replace H := f_goto H k155_14 (t := 18) (by decide)
      replace H := f_iret H k155_18
      exact ⟨_, _, H, Or.inl ⟨Int32.not_lt.mp (fun z => c ((lg_cmpI v l).1.mpr z)), Int32.not_lt.mp (fun z => c2 ((lg_cmpI v mo).2.mpr z)), rfl⟩, rfl⟩
/-- what a number says -/
def nuO (N : Nat) (u : Nat → Int32) (m : xM) (r : (Int32 × Nat) ⊕ Nat) (rv : Option Value) (m' : xM) : Prop := agQ m m' ∧ ((∃ v h2, r = .inl (v, h2) ∧ rv = some (.int v) ∧ mQ m' N h2 u) ∨ (∃ w v, r = .inr w ∧ w ≤ N ∧ rv = some (.int v) ∧ m'.1 314 11 = nI w))
theorem numT_0 {N h p : Nat} {t : Nat → Int32} {l mo : Int32} (hp : sk N t h = p) (hd : ¬ isDg (atv N t p)) : numT N t l mo h = .inr p := by
  have e : rdg N t 2 p 0 = (p, 0) := by
    unfold rdg
    rw [if_neg hd]
  unfold numT
  rw [hp, e, if_pos (Or.inl rfl)]
theorem numT_1 {N h p : Nat} {t : Nat → Int32} {l mo v : Int32} {q : Nat} (hp : sk N t h = p) (e : rdg N t 2 p 0 = (q, v)) (hq : p < q) : numT N t l mo h = if isDg (atv N t q) then .inr q else if v < l ∨ mo < v then .inr (q - 1) else .inl (v, q) := by
  unfold numT
  rw [hp, e]
  dsimp only
  by_cases c : isDg (atv N t q)
  · rw [if_pos (Or.inr c), if_pos c]
  · rw [if_neg (fun z => z.elim (fun z => by omega) c), if_neg c]
set_option maxHeartbeats 4000000 in
theorem c_number {m : xM} {N h : Nat} {u : Nat → Int32} {l mo : Int32} (hm : mQ m N h u) : fC 181 [.ref 314, .int l, .int mo] m (nuO N u m (numT N (tt u) l mo h)) := by
  refine fC_of (by decide) (fun d n P H => ?_)
  have hN : N ≤ 240 := hm.2.2.2.2.2.2.2.2.1
  have hh : h ≤ N := hm.2.2.2.2.2.2.2.2.2
  have hp : sk N (tt u) h ≤ N := sk_le hh
  replace H := f_aload_n H k181_0 rfl
  obtain ⟨rv, m1, ⟨rfl, e9⟩, h9_1⟩ := f_inv H k181_1 (by decide +kernel) (as := []) (b := 314) (r := []) (by rfl) (c_lookQ hm)
  replace H := h9_1
  have hm1 : mQ m1 N (sk N (tt u) h) u := by rw [e9]; exact mQ_h hm hp
  have ha1 : agQ m m1 := by rw [e9]; exact agQ_h (Or.inl rfl)
  clear e9
  generalize hpe : sk N (tt u) h = p at *
  -- the end: behind q, v read
  have fin : ∀ n m2 q v w3 l2, mQ m2 N q u → agQ m m2 → p < q → rdg N (tt u) 2 p 0 = (q, v) ∨ (isDg (atv N (tt u) q) ∧ ∃ v2, rdg N (tt u) 2 p 0 = (q, v2)) → l2 = [(4, Value.int v), (3, .int w3), (0, .ref 314), (1, .int l), (2, .int mo)] → xF 181 (xw d) P n 67 l2 [] m2 → ∃ rv m', P rv m' ∧ nuO N u m (numT N (tt u) l mo h) rv m' := by
    intro n m2 q v w3 l2 hm2 ha2 hpq hq hl2 H
    subst hl2
    have hqN : q ≤ N := hm2.2.2.2.2.2.2.2.2.2
    obtain ⟨hr, htx, e2, e3, e4, e5, e7, e8, e9, e10⟩ := id hm2
    replace H := f_aload_n H k181_67 rfl
    obtain ⟨rv, m3, ⟨hz, e9⟩, h9_68⟩ := f_inv H k181_68 (by decide +kernel) (as := []) (b := 314) (r := []) (by rfl) (c_digQ hm2)
    replace H := h9_68
    subst m3
    rcases hz with ⟨hz, rfl⟩ | ⟨hz, rfl⟩
    · have e : ∃ v2, rdg N (tt u) 2 p 0 = (q, v2) := hq.elim (fun z => ⟨v, z⟩) (fun z => z.2)
      obtain ⟨v2, e⟩ := e
      rw [numT_1 hpe e hpq, if_pos hz]
      replace H := f_if_eq_f H k181_71 (by decide)
      replace H := f_aload_n H k181_74 rfl
      obtain ⟨rv, m', ⟨rfl, rfl⟩, h9_75⟩ := f_inv H k181_75 (by decide +kernel) (as := []) (b := 314) (r := []) (by rfl) (c_mfails e5 e4)
      replace H := h9_75
      replace H := f_pop H k181_78
      replace H := f_iconst H k181_79 (v := 0) (by decide)
      replace H := f_iret H k181_80
      exact ⟨_, _, H, agQ_tr ha2 (agQ_h (Or.inr rfl)), Or.inr ⟨q, _, rfl, hqN, rfl, mI_at⟩⟩
    · have e : rdg N (tt u) 2 p 0 = (q, v) := hq.resolve_right (fun z => hz z.1)
      rw [numT_1 hpe e hpq, if_neg hz]
      replace H := f_if_eq_t H k181_71 rfl (t := 81) (by decide)
      replace H := f_iload H k181_81 rfl
      replace H := f_i2l H k181_83
      replace H := f_iload_n H k181_84 rfl
      replace H := f_i2l H k181_85
      replace H := f_iload_n H k181_86 rfl
      replace H := f_i2l H k181_87
      obtain ⟨rv, m', ⟨ho, rfl⟩, h9_88⟩ := f_ins H k181_88 (by decide +kernel) (as := [.long _, .long _, .long _]) (r := []) (by rfl) (c_isInI)
      replace H := h9_88
      rcases ho with ⟨h1, h2, rfl⟩ | ⟨h1, rfl⟩
      · rw [if_neg (fun z => z.elim (fun z => Int32.not_lt.mpr h1 z) (fun z => Int32.not_lt.mpr h2 z))]
        replace H := f_if_ne_t H k181_91 (by decide) (t := 109) (by decide)
        replace H := f_iload H k181_109 rfl
        replace H := f_iret H k181_111
        exact ⟨_, _, H, ha2, Or.inl ⟨v, q, rfl, rfl, hm2⟩⟩
      · rw [if_pos h1]
        replace H := f_if_ne_f H k181_91 rfl
        replace H := f_aload_n H k181_94 rfl
        replace H := f_dup H k181_95
        replace H := f_gi H k181_96 (ci := 12) (f := 10) (by decide +kernel) (by decide)
        replace H := f_iconst H k181_99 (v := 1) (by decide)
        replace H := f_isub H k181_100
        replace H := f_put_i H k181_101 (ci := 12) (f := 10) (by decide +kernel) (by decide)
        rw [e4, show q = (q - 1) + 1 by omega, nI_1s] at H
        have hm4 := mQ_h hm2 (h2 := q - 1) (by omega)
        replace H := f_aload_n H k181_104 rfl
        obtain ⟨rv, m', ⟨rfl, rfl⟩, h9_105⟩ := f_inv H k181_105 (by decide +kernel) (as := []) (b := 314) (r := []) (by rfl) (c_mfails hm4.2.2.2.2.2.1 hm4.2.2.2.2.1)
        replace H := h9_105
        replace H := f_pop H k181_108
        replace H := f_iload H k181_109 rfl
        replace H := f_iret H k181_111
        exact ⟨_, _, H, agQ_tr ha2 (agQ_tr (agQ_h (Or.inl rfl)) (agQ_h (Or.inr rfl))), Or.inr ⟨q - 1, _, rfl, by omega, rfl, mI_at⟩⟩
  obtain ⟨hr, htx, e2, e3, e4, e5, e7, e8, e9, e10⟩ := id hm1
  replace H := f_istore_n H k181_4 (l2 := [(3, .int _), (0, .ref 314), (1, .int l), (2, .int mo)]) rfl
  replace H := f_aload_n H k181_5 rfl
  obtain ⟨rv, m3, ⟨hz, e9⟩, h9_6⟩ := f_inv H k181_6 (by decide +kernel) (as := []) (b := 314) (r := []) (by rfl) (c_digQ hm1)
  replace H := h9_6
  subst m3
  rcases hz with ⟨hz, rfl⟩ | ⟨hz, rfl⟩
  · have hpN := dg_lt hz
    replace H := f_if_ne_t H k181_9 (by decide) (t := 19) (by decide)
    replace H := f_iload_n H k181_19 rfl
    replace H := f_bipush H k181_20 (v := 48) (by decide)
    replace H := f_isub H k181_22
    replace H := f_istore H k181_23 (l2 := [(4, .int _), (3, .int _), (0, .ref 314), (1, .int l), (2, .int mo)]) rfl
    replace H := f_aload_n H k181_25 rfl
    replace H := f_dup H k181_26
    replace H := f_gi H k181_27 (ci := 12) (f := 10) (by decide +kernel) (by decide)
    replace H := f_iconst H k181_30 (v := 1) (by decide)
    replace H := f_iadd H k181_31
    replace H := f_put_i H k181_32 (ci := 12) (f := 10) (by decide +kernel) (by decide)
    replace H := f_aload_n H k181_35 rfl
    rw [e4, nI_s] at H
    have hm4 := mQ_h hm1 (h2 := p + 1) (by omega)
    have ha4 : agQ m (mI m1 314 10 (nI (p + 1))) := agQ_tr ha1 (agQ_h (Or.inl rfl))
    have e44 := hm4.2.2.2.2.1
    have r1 : rdg N (tt u) 2 p 0 = rdg N (tt u) 1 (p + 1) (0 * 10 + atv N (tt u) p - 48) := by
      rw [rdg, if_pos hz]
    rw [show (0 : Int32) * 10 + atv N (tt u) p - 48 = atv N (tt u) p - 48 by rw [show (0 : Int32) * 10 = 0 by decide, Int32.zero_add]] at r1
    obtain ⟨rv, m5, ⟨hz2, e9⟩, h9_36⟩ := f_inv H k181_36 (by decide +kernel) (as := []) (b := 314) (r := []) (by rfl) (c_digQ hm4)
    replace H := h9_36
    subst m5
    rcases hz2 with ⟨hz2, rfl⟩ | ⟨hz2, rfl⟩
    · have hpN2 := dg_lt hz2
      replace H := f_if_eq_f H k181_39 (by decide)
      replace H := f_bipush H k181_42 (v := 10) (by decide)
      replace H := f_iload H k181_44 rfl
      replace H := f_imul H k181_46
      replace H := f_aload_n H k181_47 rfl
      obtain ⟨rv, m', ⟨rfl, rfl⟩, h9_48⟩ := f_inv H k181_48 (by decide +kernel) (as := []) (b := 314) (r := [.int _]) (by rfl) (c_here hm4)
      replace H := h9_48
      replace H := f_iadd H k181_51
      replace H := f_bipush H k181_52 (v := 48) (by decide)
      replace H := f_isub H k181_54
      replace H := f_istore H k181_55 (l2 := [(4, .int _), (3, .int _), (0, .ref 314), (1, .int l), (2, .int mo)]) rfl
      replace H := f_aload_n H k181_57 rfl
      replace H := f_dup H k181_58
      replace H := f_gi H k181_59 (ci := 12) (f := 10) (by decide +kernel) (by decide)
      replace H := f_iconst H k181_62 (v := 1) (by decide)
      replace H := f_iadd H k181_63
      replace H := f_put_i H k181_64 (ci := 12) (f := 10) (by decide +kernel) (by decide)
      rw [e44, nI_s] at H
      have hm6 := mQ_h hm4 (h2 := p + 1 + 1) (by omega)
      have ha6 := agQ_tr ha4 (agQ_h (v := nI (p + 1 + 1)) (Or.inl rfl))
      have r2 : rdg N (tt u) 1 (p + 1) (atv N (tt u) p - 48) = (p + 1 + 1, (atv N (tt u) p - 48) * 10 + atv N (tt u) (p + 1) - 48) := by
        rw [rdg, if_pos hz2]
        rfl
      rw [Int32.mul_comm] at H
      exact fin _ _ (p + 1 + 1) _ _ _ hm6 ha6 (by omega) (Or.inl (r1.trans r2)) rfl H
    · replace H := f_if_eq_t H k181_39 rfl (t := 67) (by decide)
      have r2 : rdg N (tt u) 1 (p + 1) (atv N (tt u) p - 48) = (p + 1, atv N (tt u) p - 48) := by
        rw [rdg, if_neg hz2]
      exact fin _ _ (p + 1) _ _ _ hm4 ha4 (by omega) (Or.inl (r1.trans r2)) rfl H
  · rw [numT_0 hpe hz]
    replace H := f_if_ne_f H k181_9 rfl
    replace H := f_aload_n H k181_12 rfl
    obtain ⟨rv, m', ⟨rfl, rfl⟩, h9_13⟩ := f_inv H k181_13 (by decide +kernel) (as := []) (b := 314) (r := []) (by rfl) (c_mfails e5 e4)
    replace H := h9_13
    replace H := f_pop H k181_16
    replace H := f_iconst H k181_17 (v := 0) (by decide)
    replace H := f_iret H k181_18
    exact ⟨_, _, H, agQ_tr ha1 (agQ_h (Or.inr rfl)), Or.inr ⟨p, _, rfl, hp, rfl, mI_at⟩⟩
theorem k156_0 : lkc 0 (kcode 156) = some (.iload_n 0) := by decide +kernel
theorem k156_1 : lkc 1 (kcode 156) = some (.iload_n 1) := by decide +kernel
theorem k156_2 : lkc 2 (kcode 156) = some (.ishr) := by decide +kernel
theorem k156_3 : lkc 3 (kcode 156) = some (.iconst 1) := by decide +kernel
theorem k156_4 : lkc 4 (kcode 156) = some (.iand) := by decide +kernel
theorem k156_5 : lkc 5 (kcode 156) = some (.iconst 1) := by decide +kernel
theorem k156_6 : lkc 6 (kcode 156) = some (.if_icmp .ne 7) := by decide +kernel
theorem k156_9 : lkc 9 (kcode 156) = some (.iconst 1) := by decide +kernel
theorem k156_10 : lkc 10 (kcode 156) = some (.goto 4) := by decide +kernel
theorem k156_13 : lkc 13 (kcode 156) = some (.iconst 0) := by decide +kernel
theorem k156_14 : lkc 14 (kcode 156) = some (.ireturn) := by decide +kernel
theorem k182_0 : lkc 0 (kcode 182) = some (.iload_n 0) := by decide +kernel
theorem k182_1 : lkc 1 (kcode 182) = some (.bipush 115) := by decide +kernel
theorem k182_3 : lkc 3 (kcode 182) = some (.if_icmp .ne 15) := by decide +kernel
theorem k182_6 : lkc 6 (kcode 182) = some (.iload_n 1) := by decide +kernel
theorem k182_7 : lkc 7 (kcode 182) = some (.ifCond .ne 8) := by decide +kernel
theorem k182_10 : lkc 10 (kcode 182) = some (.bipush 8) := by decide +kernel
theorem k182_12 : lkc 12 (kcode 182) = some (.goto 5) := by decide +kernel
theorem k182_15 : lkc 15 (kcode 182) = some (.bipush 99) := by decide +kernel
theorem k182_17 : lkc 17 (kcode 182) = some (.ireturn) := by decide +kernel
theorem k182_18 : lkc 18 (kcode 182) = some (.iload_n 0) := by decide +kernel
theorem k182_19 : lkc 19 (kcode 182) = some (.bipush 101) := by decide +kernel
theorem k182_21 : lkc 21 (kcode 182) = some (.if_icmp .ne 25) := by decide +kernel
theorem k182_24 : lkc 24 (kcode 182) = some (.iload_n 1) := by decide +kernel
theorem k182_25 : lkc 25 (kcode 182) = some (.iconst 2) := by decide +kernel
theorem k182_26 : lkc 26 (kcode 182) = some (.if_icmp .ge 8) := by decide +kernel
theorem k182_29 : lkc 29 (kcode 182) = some (.bipush 7) := by decide +kernel
theorem k182_31 : lkc 31 (kcode 182) = some (.goto 14) := by decide +kernel
theorem k182_34 : lkc 34 (kcode 182) = some (.iload_n 1) := by decide +kernel
theorem k182_35 : lkc 35 (kcode 182) = some (.iconst 2) := by decide +kernel
theorem k182_36 : lkc 36 (kcode 182) = some (.if_icmp .ne 8) := by decide +kernel
theorem k182_39 : lkc 39 (kcode 182) = some (.bipush 40) := by decide +kernel
theorem k182_41 : lkc 41 (kcode 182) = some (.goto 4) := by decide +kernel
theorem k182_44 : lkc 44 (kcode 182) = some (.iconst 1) := by decide +kernel
theorem k182_45 : lkc 45 (kcode 182) = some (.ireturn) := by decide +kernel
theorem k182_46 : lkc 46 (kcode 182) = some (.iload_n 1) := by decide +kernel
theorem k182_47 : lkc 47 (kcode 182) = some (.ifCond .ne 8) := by decide +kernel
theorem k182_50 : lkc 50 (kcode 182) = some (.bipush 7) := by decide +kernel
theorem k182_52 : lkc 52 (kcode 182) = some (.goto 5) := by decide +kernel
theorem k182_55 : lkc 55 (kcode 182) = some (.bipush 9) := by decide +kernel
theorem k182_57 : lkc 57 (kcode 182) = some (.ireturn) := by decide +kernel
theorem k183_0 : lkc 0 (kcode 183) = some (.iload_n 0) := by decide +kernel
theorem k183_1 : lkc 1 (kcode 183) = some (.bipush 115) := by decide +kernel
theorem k183_3 : lkc 3 (kcode 183) = some (.if_icmp .ne 9) := by decide +kernel
theorem k183_6 : lkc 6 (kcode 183) = some (.iload_n 1) := by decide +kernel
theorem k183_7 : lkc 7 (kcode 183) = some (.ifCond .ne 5) := by decide +kernel
theorem k183_10 : lkc 10 (kcode 183) = some (.iconst 2) := by decide +kernel
theorem k183_11 : lkc 11 (kcode 183) = some (.ireturn) := by decide +kernel
theorem k183_12 : lkc 12 (kcode 183) = some (.iload_n 0) := by decide +kernel
theorem k183_13 : lkc 13 (kcode 183) = some (.bipush 101) := by decide +kernel
theorem k183_15 : lkc 15 (kcode 183) = some (.if_icmp .ne 12) := by decide +kernel
theorem k183_18 : lkc 18 (kcode 183) = some (.iload_n 1) := by decide +kernel
theorem k183_19 : lkc 19 (kcode 183) = some (.iconst 2) := by decide +kernel
theorem k183_20 : lkc 20 (kcode 183) = some (.if_icmp .ne 7) := by decide +kernel
theorem k183_23 : lkc 23 (kcode 183) = some (.iconst 1) := by decide +kernel
theorem k183_24 : lkc 24 (kcode 183) = some (.goto 4) := by decide +kernel
theorem k183_27 : lkc 27 (kcode 183) = some (.iconst 0) := by decide +kernel
theorem k183_28 : lkc 28 (kcode 183) = some (.ireturn) := by decide +kernel
theorem k184_0 : lkc 0 (kcode 184) = some (.iload_n 0) := by decide +kernel
theorem k184_1 : lkc 1 (kcode 184) = some (.bipush 115) := by decide +kernel
theorem k184_3 : lkc 3 (kcode 184) = some (.if_icmp .ne 14) := by decide +kernel
theorem k184_6 : lkc 6 (kcode 184) = some (.iload_n 1) := by decide +kernel
theorem k184_7 : lkc 7 (kcode 184) = some (.ifCond .ne 7) := by decide +kernel
theorem k184_10 : lkc 10 (kcode 184) = some (.iconst 4) := by decide +kernel
theorem k184_11 : lkc 11 (kcode 184) = some (.goto 5) := by decide +kernel
theorem k184_14 : lkc 14 (kcode 184) = some (.bipush 20) := by decide +kernel
theorem k184_16 : lkc 16 (kcode 184) = some (.ireturn) := by decide +kernel
theorem k184_17 : lkc 17 (kcode 184) = some (.iload_n 0) := by decide +kernel
theorem k184_18 : lkc 18 (kcode 184) = some (.bipush 101) := by decide +kernel
theorem k184_20 : lkc 20 (kcode 184) = some (.if_icmp .ne 23) := by decide +kernel
theorem k184_23 : lkc 23 (kcode 184) = some (.iload_n 1) := by decide +kernel
theorem k184_24 : lkc 24 (kcode 184) = some (.iconst 1) := by decide +kernel
theorem k184_25 : lkc 25 (kcode 184) = some (.if_icmp .ne 7) := by decide +kernel
theorem k184_28 : lkc 28 (kcode 184) = some (.iconst 1) := by decide +kernel
theorem k184_29 : lkc 29 (kcode 184) = some (.goto 13) := by decide +kernel
theorem k184_32 : lkc 32 (kcode 184) = some (.iload_n 1) := by decide +kernel
theorem k184_33 : lkc 33 (kcode 184) = some (.iconst 2) := by decide +kernel
theorem k184_34 : lkc 34 (kcode 184) = some (.if_icmp .ne 7) := by decide +kernel
theorem k184_37 : lkc 37 (kcode 184) = some (.iconst 5) := by decide +kernel
theorem k184_38 : lkc 38 (kcode 184) = some (.goto 4) := by decide +kernel
theorem k184_41 : lkc 41 (kcode 184) = some (.iconst 0) := by decide +kernel
theorem k184_42 : lkc 42 (kcode 184) = some (.ireturn) := by decide +kernel
theorem k184_43 : lkc 43 (kcode 184) = some (.iload_n 1) := by decide +kernel
theorem k184_44 : lkc 44 (kcode 184) = some (.ifCond .ne 7) := by decide +kernel
theorem k184_47 : lkc 47 (kcode 184) = some (.iconst 0) := by decide +kernel
theorem k184_48 : lkc 48 (kcode 184) = some (.goto 4) := by decide +kernel
theorem k184_51 : lkc 51 (kcode 184) = some (.iconst 4) := by decide +kernel
theorem k184_52 : lkc 52 (kcode 184) = some (.ireturn) := by decide +kernel
theorem k185_0 : lkc 0 (kcode 185) = some (.iconst 0) := by decide +kernel
theorem k185_1 : lkc 1 (kcode 185) = some (.istore 5) := by decide +kernel
theorem k185_3 : lkc 3 (kcode 185) = some (.iload 5) := by decide +kernel
theorem k185_5 : lkc 5 (kcode 185) = some (.aload 4) := by decide +kernel
theorem k185_7 : lkc 7 (kcode 185) = some (.invokevirtual 93) := by decide +kernel
theorem k185_10 : lkc 10 (kcode 185) = some (.if_icmp .ge 21) := by decide +kernel
theorem k185_13 : lkc 13 (kcode 185) = some (.aload_n 2) := by decide +kernel
theorem k185_14 : lkc 14 (kcode 185) = some (.iload_n 3) := by decide +kernel
theorem k185_15 : lkc 15 (kcode 185) = some (.iload 5) := by decide +kernel
theorem k185_17 : lkc 17 (kcode 185) = some (.iadd) := by decide +kernel
theorem k185_18 : lkc 18 (kcode 185) = some (.iload_n 1) := by decide +kernel
theorem k185_19 : lkc 19 (kcode 185) = some (.iload 5) := by decide +kernel
theorem k185_21 : lkc 21 (kcode 185) = some (.invokestatic 215) := by decide +kernel
theorem k185_24 : lkc 24 (kcode 185) = some (.iastore) := by decide +kernel
theorem k185_25 : lkc 25 (kcode 185) = some (.iinc 5 1) := by decide +kernel
theorem k185_28 : lkc 28 (kcode 185) = some (.goto (-25)) := by decide +kernel
theorem k185_31 : lkc 31 (kcode 185) = some (.iconst 0) := by decide +kernel
theorem k185_32 : lkc 32 (kcode 185) = some (.istore 5) := by decide +kernel
theorem k185_34 : lkc 34 (kcode 185) = some (.aload 4) := by decide +kernel
theorem k185_36 : lkc 36 (kcode 185) = some (.aload_n 0) := by decide +kernel
theorem k185_37 : lkc 37 (kcode 185) = some (.invokevirtual 132) := by decide +kernel
theorem k185_40 : lkc 40 (kcode 185) = some (.invokestatic 219) := by decide +kernel
theorem k185_43 : lkc 43 (kcode 185) = some (.istore 6) := by decide +kernel
theorem k185_45 : lkc 45 (kcode 185) = some (.iload 6) := by decide +kernel
theorem k185_47 : lkc 47 (kcode 185) = some (.iconst (-1)) := by decide +kernel
theorem k185_48 : lkc 48 (kcode 185) = some (.if_icmp .eq 90) := by decide +kernel
theorem k185_51 : lkc 51 (kcode 185) = some (.aload_n 0) := by decide +kernel
theorem k185_52 : lkc 52 (kcode 185) = some (.getfield 122) := by decide +kernel
theorem k185_55 : lkc 55 (kcode 185) = some (.iconst (-1)) := by decide +kernel
theorem k185_56 : lkc 56 (kcode 185) = some (.if_icmp .ne 82) := by decide +kernel
theorem k185_59 : lkc 59 (kcode 185) = some (.iload 5) := by decide +kernel
theorem k185_61 : lkc 61 (kcode 185) = some (.iload 6) := by decide +kernel
theorem k185_63 : lkc 63 (kcode 185) = some (.invokestatic 223) := by decide +kernel
theorem k185_66 : lkc 66 (kcode 185) = some (.ifCond .eq 9) := by decide +kernel
theorem k185_69 : lkc 69 (kcode 185) = some (.aload_n 0) := by decide +kernel
theorem k185_70 : lkc 70 (kcode 185) = some (.invokevirtual 128) := by decide +kernel
theorem k185_73 : lkc 73 (kcode 185) = some (.pop) := by decide +kernel
theorem k185_74 : lkc 74 (kcode 185) = some (.return_) := by decide +kernel
theorem k185_75 : lkc 75 (kcode 185) = some (.iload 5) := by decide +kernel
theorem k185_77 : lkc 77 (kcode 185) = some (.iconst 1) := by decide +kernel
theorem k185_78 : lkc 78 (kcode 185) = some (.iload 6) := by decide +kernel
theorem k185_80 : lkc 80 (kcode 185) = some (.ishl) := by decide +kernel
theorem k185_81 : lkc 81 (kcode 185) = some (.ior) := by decide +kernel
theorem k185_82 : lkc 82 (kcode 185) = some (.istore 5) := by decide +kernel
theorem k185_84 : lkc 84 (kcode 185) = some (.aload_n 0) := by decide +kernel
theorem k185_85 : lkc 85 (kcode 185) = some (.dup) := by decide +kernel
theorem k185_86 : lkc 86 (kcode 185) = some (.getfield 113) := by decide +kernel
theorem k185_89 : lkc 89 (kcode 185) = some (.iconst 1) := by decide +kernel
theorem k185_90 : lkc 90 (kcode 185) = some (.iadd) := by decide +kernel
theorem k185_91 : lkc 91 (kcode 185) = some (.putfield 113) := by decide +kernel
theorem k185_94 : lkc 94 (kcode 185) = some (.aload_n 2) := by decide +kernel
theorem k185_95 : lkc 95 (kcode 185) = some (.iload_n 3) := by decide +kernel
theorem k185_96 : lkc 96 (kcode 185) = some (.iload 6) := by decide +kernel
theorem k185_98 : lkc 98 (kcode 185) = some (.iadd) := by decide +kernel
theorem k185_99 : lkc 99 (kcode 185) = some (.aload_n 0) := by decide +kernel
theorem k185_100 : lkc 100 (kcode 185) = some (.iload_n 1) := by decide +kernel
theorem k185_101 : lkc 101 (kcode 185) = some (.iload 6) := by decide +kernel
theorem k185_103 : lkc 103 (kcode 185) = some (.invokestatic 227) := by decide +kernel
theorem k185_106 : lkc 106 (kcode 185) = some (.iload_n 1) := by decide +kernel
theorem k185_107 : lkc 107 (kcode 185) = some (.iload 6) := by decide +kernel
theorem k185_109 : lkc 109 (kcode 185) = some (.invokestatic 230) := by decide +kernel
theorem k185_112 : lkc 112 (kcode 185) = some (.invokevirtual 233) := by decide +kernel
theorem k185_115 : lkc 115 (kcode 185) = some (.iastore) := by decide +kernel
theorem k185_116 : lkc 116 (kcode 185) = some (.aload_n 0) := by decide +kernel
theorem k185_117 : lkc 117 (kcode 185) = some (.getfield 122) := by decide +kernel
theorem k185_120 : lkc 120 (kcode 185) = some (.iconst (-1)) := by decide +kernel
theorem k185_121 : lkc 121 (kcode 185) = some (.if_icmp .ne (-76)) := by decide +kernel
theorem k185_124 : lkc 124 (kcode 185) = some (.aload 4) := by decide +kernel
theorem k185_126 : lkc 126 (kcode 185) = some (.aload_n 0) := by decide +kernel
theorem k185_127 : lkc 127 (kcode 185) = some (.invokevirtual 132) := by decide +kernel
theorem k185_130 : lkc 130 (kcode 185) = some (.invokestatic 219) := by decide +kernel
theorem k185_133 : lkc 133 (kcode 185) = some (.istore 6) := by decide +kernel
theorem k185_135 : lkc 135 (kcode 185) = some (.goto (-90)) := by decide +kernel
theorem k185_138 : lkc 138 (kcode 185) = some (.return_) := by decide +kernel
/-! forward: the reference's reader of a town's text: the items of a clause -/
def moF (k i : Int32) : Int32 := if k = 115 then (if i = 0 then 8 else 99) else if k = 101 then (if i < 2 then 7 else if i = 2 then 40 else 1) else if i = 0 then 7 else 9
def leF (k i : Int32) : Int32 := if k = 115 ∧ i = 0 then 2 else if k = 101 ∧ i = 2 then 1 else 0
def usF (k i : Int32) : Int32 := if k = 115 then (if i = 0 then 4 else 20) else if k = 101 then (if i = 1 then 1 else if i = 2 then 5 else 0) else if i = 0 then 0 else 4
theorem c_mostOf {m : xM} {k i : Int32} : fC 182 [.int k, .int i] m (fun rv m' => rv = some (.int (moF k i)) ∧ m = m') := by
  refine fC_of (by decide) (fun d n P H => ?_)
  unfold moF
  replace H := f_iload_n H k182_0 rfl
  replace H := f_bipush H k182_1 (v := 115) (by decide)
  have Hbr := f_icmp_ne H k182_3 (t := 18) (by decide)
  clear H
  rcases Hbr with ⟨c, H⟩ | ⟨c, H⟩
  · rw [if_neg c]
    replace H := f_iload_n H k182_18 rfl
    replace H := f_bipush H k182_19 (v := 101) (by decide)
    have Hbr := f_icmp_ne H k182_21 (t := 46) (by decide)
    clear H
    rcases Hbr with ⟨c2, H⟩ | ⟨c2, H⟩
    · rw [if_neg c2]
      replace H := f_iload_n H k182_46 rfl
      have Hbr := f_if_ne H k182_47 (t := 55) (by decide)
      clear H
      rcases Hbr with ⟨c3, H⟩ | ⟨c3, H⟩
      · rw [if_neg c3]
        replace H := f_bipush H k182_55 (v := 9) (by decide)
        replace H := f_iret H k182_57
        exact ⟨_, _, H, rfl, rfl⟩
      · rw [if_pos c3]
        replace H := f_bipush H k182_50 (v := 7) (by decide)
        replace H := f_goto H k182_52 (t := 57) (by decide)
        replace H := f_iret H k182_57
        exact ⟨_, _, H, rfl, rfl⟩
    · rw [if_pos c2]
      replace H := f_iload_n H k182_24 rfl
      replace H := f_iconst H k182_25 (v := 2) (by decide)
      have Hbr := f_icmp_ge H k182_26 (t := 34) (by decide)
      clear H
      rcases Hbr with ⟨c3, H⟩ | ⟨c3, H⟩
      · rw [if_neg (Int32.not_lt.mpr c3)]
        replace H := f_iload_n H k182_34 rfl
        replace H := f_iconst H k182_35 (v := 2) (by decide)
        have Hbr := f_icmp_ne H k182_36 (t := 44) (by decide)
        clear H
        rcases Hbr with ⟨c4, H⟩ | ⟨c4, H⟩
        · rw [if_neg c4]
          replace H := f_iconst H k182_44 (v := 1) (by decide)
          replace H := f_iret H k182_45
          exact ⟨_, _, H, rfl, rfl⟩
        · rw [if_pos c4]
          replace H := f_bipush H k182_39 (v := 40) (by decide)
          replace H := f_goto H k182_41 (t := 45) (by decide)
          replace H := f_iret H k182_45
          exact ⟨_, _, H, rfl, rfl⟩
      · rw [if_pos (Int32.not_le.mp c3)]
        replace H := f_bipush H k182_29 (v := 7) (by decide)
        replace H := f_goto H k182_31 (t := 45) (by decide)
        replace H := f_iret H k182_45
        exact ⟨_, _, H, rfl, rfl⟩
  · rw [if_pos c]
    replace H := f_iload_n H k182_6 rfl
    have Hbr := f_if_ne H k182_7 (t := 15) (by decide)
    clear H
    rcases Hbr with ⟨c2, H⟩ | ⟨c2, H⟩
    · rw [if_neg c2]
      replace H := f_bipush H k182_15 (v := 99) (by decide)
      replace H := f_iret H k182_17
      exact ⟨_, _, H, rfl, rfl⟩
    · rw [if_pos c2]
      replace H := f_bipush H k182_10 (v := 8) (by decide)
      replace H := f_goto H k182_12 (t := 17) (by decide)
      replace H := f_iret H k182_17
      exact ⟨_, _, H, rfl, rfl⟩
theorem c_leastOf {m : xM} {k i : Int32} : fC 183 [.int k, .int i] m (fun rv m' => rv = some (.int (leF k i)) ∧ m = m') := by
  refine fC_of (by decide) (fun d n P H => ?_)
  unfold leF
  have sec : ¬ (k = 115 ∧ i = 0) → xF 183 (xw d) P n 12 [(0, .int k), (1, .int i)] [] m → ∃ rv m', P rv m' ∧ rv = some (.int (if k = 115 ∧ i = 0 then 2 else if k = 101 ∧ i = 2 then 1 else 0)) ∧ m = m' := by
    intro hn H
    rw [if_neg hn]
    replace H := f_iload_n H k183_12 rfl
    replace H := f_bipush H k183_13 (v := 101) (by decide)
    have Hbr := f_icmp_ne H k183_15 (t := 27) (by decide)
    clear H
    rcases Hbr with ⟨c, H⟩ | ⟨c, H⟩
    · rw [if_neg (fun z => c z.1)]
      replace H := f_iconst H k183_27 (v := 0) (by decide)
      replace H := f_iret H k183_28
      exact ⟨_, _, H, rfl, rfl⟩
    · replace H := f_iload_n H k183_18 rfl
      replace H := f_iconst H k183_19 (v := 2) (by decide)
      have Hbr := f_icmp_ne H k183_20 (t := 27) (by decide)
      clear H
      rcases Hbr with ⟨c2, H⟩ | ⟨c2, H⟩
      · rw [if_neg (fun z => c2 z.2)]
        replace H := f_iconst H k183_27 (v := 0) (by decide)
        replace H := f_iret H k183_28
        exact ⟨_, _, H, rfl, rfl⟩
      · rw [if_pos ⟨c, c2⟩]
        replace H := f_iconst H k183_23 (v := 1) (by decide)
        replace H := f_goto H k183_24 (t := 28) (by decide)
        replace H := f_iret H k183_28
        exact ⟨_, _, H, rfl, rfl⟩
  replace H := f_iload_n H k183_0 rfl
  replace H := f_bipush H k183_1 (v := 115) (by decide)
  have Hbr := f_icmp_ne H k183_3 (t := 12) (by decide)
  clear H
  rcases Hbr with ⟨c, H⟩ | ⟨c, H⟩
  · exact sec (fun z => c z.1) H
  replace H := f_iload_n H k183_6 rfl
  have Hbr := f_if_ne H k183_7 (t := 12) (by decide)
  clear H
  rcases Hbr with ⟨c2, H⟩ | ⟨c2, H⟩
  · exact sec (fun z => c2 z.2) H
  rw [if_pos ⟨c, c2⟩]
  replace H := f_iconst H k183_10 (v := 2) (by decide)
  replace H := f_iret H k183_11
  exact ⟨_, _, H, rfl, rfl⟩
theorem c_usual {m : xM} {k i : Int32} : fC 184 [.int k, .int i] m (fun rv m' => rv = some (.int (usF k i)) ∧ m = m') := by
  refine fC_of (by decide) (fun d n P H => ?_)
  unfold usF
  replace H := f_iload_n H k184_0 rfl
  replace H := f_bipush H k184_1 (v := 115) (by decide)
  have Hbr := f_icmp_ne H k184_3 (t := 17) (by decide)
  clear H
  rcases Hbr with ⟨c, H⟩ | ⟨c, H⟩
  · rw [if_neg c]
    replace H := f_iload_n H k184_17 rfl
    replace H := f_bipush H k184_18 (v := 101) (by decide)
    have Hbr := f_icmp_ne H k184_20 (t := 43) (by decide)
    clear H
    rcases Hbr with ⟨c2, H⟩ | ⟨c2, H⟩
    · rw [if_neg c2]
      replace H := f_iload_n H k184_43 rfl
      have Hbr := f_if_ne H k184_44 (t := 51) (by decide)
      clear H
      rcases Hbr with ⟨c3, H⟩ | ⟨c3, H⟩
      · rw [if_neg c3]
        replace H := f_iconst H k184_51 (v := 4) (by decide)
        replace H := f_iret H k184_52
        exact ⟨_, _, H, rfl, rfl⟩
      · rw [if_pos c3]
        replace H := f_iconst H k184_47 (v := 0) (by decide)
        replace H := f_goto H k184_48 (t := 52) (by decide)
        replace H := f_iret H k184_52
        exact ⟨_, _, H, rfl, rfl⟩
    · rw [if_pos c2]
      replace H := f_iload_n H k184_23 rfl
      replace H := f_iconst H k184_24 (v := 1) (by decide)
      have Hbr := f_icmp_ne H k184_25 (t := 32) (by decide)
      clear H
      rcases Hbr with ⟨c3, H⟩ | ⟨c3, H⟩
      · rw [if_neg c3]
        replace H := f_iload_n H k184_32 rfl
        replace H := f_iconst H k184_33 (v := 2) (by decide)
        have Hbr := f_icmp_ne H k184_34 (t := 41) (by decide)
        clear H
        rcases Hbr with ⟨c4, H⟩ | ⟨c4, H⟩
        · rw [if_neg c4]
          replace H := f_iconst H k184_41 (v := 0) (by decide)
          replace H := f_iret H k184_42
          exact ⟨_, _, H, rfl, rfl⟩
        · rw [if_pos c4]
          replace H := f_iconst H k184_37 (v := 5) (by decide)
          replace H := f_goto H k184_38 (t := 42) (by decide)
          replace H := f_iret H k184_42
          exact ⟨_, _, H, rfl, rfl⟩
      · rw [if_pos c3]
        replace H := f_iconst H k184_28 (v := 1) (by decide)
        replace H := f_goto H k184_29 (t := 42) (by decide)
        replace H := f_iret H k184_42
        exact ⟨_, _, H, rfl, rfl⟩
  · rw [if_pos c]
    replace H := f_iload_n H k184_6 rfl
    have Hbr := f_if_ne H k184_7 (t := 14) (by decide)
    clear H
    rcases Hbr with ⟨c2, H⟩ | ⟨c2, H⟩
    · rw [if_neg c2]
      replace H := f_bipush H k184_14 (v := 20) (by decide)
      replace H := f_iret H k184_16
      exact ⟨_, _, H, rfl, rfl⟩
    · rw [if_pos c2]
      replace H := f_iconst H k184_10 (v := 4) (by decide)
      replace H := f_goto H k184_11 (t := 16) (by decide)
      replace H := f_iret H k184_16
      exact ⟨_, _, H, rfl, rfl⟩
theorem c_has {m : xM} {a i : Int32} : fC 156 [.int a, .int i] m (fun rv m' => ((a >>> (i &&& 31) &&& 1 = 1 ∧ rv = some (.int 1)) ∨ (¬ a >>> (i &&& 31) &&& 1 = 1 ∧ rv = some (.int 0))) ∧ m = m') := by
  refine fC_of (by decide) (fun d n P H => ?_)
  replace H := f_iload_n H k156_0 rfl
  replace H := f_iload_n H k156_1 rfl
  replace H := f_ishr H k156_2
  replace H := f_iconst H k156_3 (v := 1) (by decide)
  replace H := f_iand H k156_4
  replace H := f_iconst H k156_5 (v := 1) (by decide)
  have Hbr := f_icmp_ne H k156_6 (t := 13) (by decide)
  clear H
  rcases Hbr with ⟨c, H⟩ | ⟨c, H⟩
  · replace H := f_iconst H k156_13 (v := 0) (by decide)
    replace H := f_iret H k156_14
    exact ⟨_, _, H, Or.inr ⟨c, rfl⟩, rfl⟩
  · replace H := f_iconst H k156_9 (v := 1) (by decide)
    replace H := f_goto H k156_10 (t := 14) (by decide)
    replace H := f_iret H k156_14
    exact ⟨_, _, H, Or.inl ⟨c, rfl⟩, rfl⟩
def knd (K : Nat) : Int32 := if K = 0 then 115 else if K = 1 then 101 else 112
def kTbF (K i : Nat) : Bool := decide (moF (knd K) (nI i) = msT K i) && (decide (leF (knd K) (nI i) = lsT K i) && (decide (usF (knd K) (nI i) = dfT K i) && (decide (cst (1002 + K) i ≠ -1) && decide (cst (1002 + K) i ≠ 59))))
theorem kTb_f : (List.range 3).all (fun K => (List.range (LK K)).all (kTbF K)) = true := by decide +kernel
theorem kTb_g {K i : Nat} (hK : K < 3) (hi : i < LK K) : moF (knd K) (nI i) = msT K i ∧ leF (knd K) (nI i) = lsT K i ∧ usF (knd K) (nI i) = dfT K i ∧ cst (1002 + K) i ≠ -1 ∧ cst (1002 + K) i ≠ 59 := by
  have e := List.all_eq_true.mp (List.all_eq_true.mp kTb_f K (List.mem_range.mpr hK)) i (List.mem_range.mpr hi)
  unfold kTbF at e
  rw [Bool.and_eq_true, Bool.and_eq_true, Bool.and_eq_true, Bool.and_eq_true] at e
  exact ⟨of_decide_eq_true e.1, of_decide_eq_true e.2.1, of_decide_eq_true e.2.2.1, of_decide_eq_true e.2.2.2.1, of_decide_eq_true e.2.2.2.2⟩
/-- nothing but at, fault and L places of row C from o on has changed -/
def agT (C o L : Nat) (m m' : xM) : Prop := (∀ a i, ¬ (a = 314 ∧ (i = 10 ∨ i = 11)) → ¬ (a = C ∧ o ≤ i ∧ i < o + L) → m'.1 a i = m.1 a i) ∧ m'.2 = m.2
theorem agT_tr {C o L : Nat} {m1 m2 m3 : xM} (h1 : agT C o L m1 m2) (h2 : agT C o L m2 m3) : agT C o L m1 m3 := ⟨fun a i hi hj => (h2.1 a i hi hj).trans (h1.1 a i hi hj), h2.2.trans h1.2⟩
theorem agT_0 {C o L : Nat} {m : xM} : agT C o L m m := ⟨fun _ _ _ _ => rfl, rfl⟩
theorem agT_Q {C o L : Nat} {m m' : xM} (h : agQ m m') : agT C o L m m' := ⟨fun a i h1 _ => h.1 a i h1, h.2⟩
theorem agT_r {C o L i : Nat} {m : xM} {v : Int32} (h1 : o ≤ i) (h2 : i < o + L) : agT C o L m (mI m C i v) := ⟨fun a j _ h => mI_ne (fun z => h ⟨z.1, by omega, by omega⟩), rfl⟩
theorem mQ_T {C o L N h h2 : Nat} {u : Nat → Int32} {m m' : xM} (hC : C ≠ 314) (hC2 : C ≠ 315) (h1 : mQ m N h u) (ha : agT C o L m m') (h3 : m'.1 314 10 = nI h2) (h4 : m'.1 314 11 = -1) (h5 : h2 ≤ N) : mQ m' N h2 u := mQ_ag h1 ⟨fun i hi => ha.1 314 i (by omega) (by omega), funext fun j => ha.1 315 j (by omega) (by omega), ha.2⟩ h3 h4 h5
def miO (N : Nat) (u : Nat → Int32) (C o L : Nat) (m : xM) (r : ((Nat → Int32) × Nat) ⊕ Nat) (m' : xM) : Prop := agT C o L m m' ∧ ((∃ row p, r = .inl (row, p) ∧ mQ m' N p u ∧ sk N (tt u) p = p ∧ (atv N (tt u) p = -1 ∨ atv N (tt u) p = 59) ∧ ∀ i, i < L → m'.1 C (o + i) = row i) ∨ (∃ w, r = .inr w ∧ w ≤ N ∧ (m'.1 314 11 = nI w ∨ (mQ m' N w u ∧ sk N (tt u) w = w ∧ ¬ (atv N (tt u) w = -1 ∨ atv N (tt u) w = 59)))))
set_option maxHeartbeats 4000000 in
theorem c_mreadItems {m : xM} {N h K C o cap sr : Nat} {u : Nat → Int32} (hK : K < 3) (hC : lay C = (0, 0, cap)) (hsr : sr = 1002 + K) (hC1 : C ≠ 314) (hC2 : C ≠ 315) (ho : o ≤ 60) (hm : mQ m N h u) : fC 185 [.ref 314, .int (knd K), .ref C, .int (nI o), .ref sr] m (fun rv m' => rv = none ∧ miO N u C o (LK K) m (itm N (tt u) K 5 0 (dfT K) h) m') := by
  refine fC_of (by decide) (fun d n P H => ?_)
  have hN : N ≤ 240 := hm.2.2.2.2.2.2.2.2.1
  have hL4 := LK4 K
  obtain ⟨-, -, -, -, y5⟩ := kTb_c hK
  rw [← hsr] at y5
  have z0 : ∀ i, cst sr i = cst (1002 + K) i := fun i => by rw [hsr]
  have key2 : ∀ n a f h2 m2 row wt, f + pcn a = 5 → a < 16 → mQ m2 N h2 u → sk N (tt u) h2 = h2 → agT C o (LK K) m m2 → (∀ i, i < LK K → m2.1 C (o + i) = row i) → ((∃ i, i < LK K ∧ wt = nI i ∧ cst sr i = atv N (tt u) h2 ∧ ∀ j, j < i → cst sr j ≠ atv N (tt u) h2) ∨ (wt = -1 ∧ ∀ j, j < LK K → cst sr j ≠ atv N (tt u) h2)) → xF 185 (xw d) P (n + 1) 45 [(6, .int wt), (5, .int (nI a)), (0, .ref 314), (1, .int (knd K)), (2, .ref C), (3, .int (nI o)), (4, .ref sr)] [] m2 → ∃ rv m', P rv m' ∧ rv = none ∧ miO N u C o (LK K) m (itm N (tt u) K f a row h2) m' := by
    intro n
    induction n with
    | zero => exact fun a f h2 m2 row wt _ _ _ _ _ _ _ H => (xF_0 (f1_iload H k185_45 rfl)).elim
    | succ n ih =>
      intro a f h2 m2 row wt hf ha hm2 hsk hag hrow hw H
      have hp4 : pcn a ≤ 4 := (pcn_c ⟨a, ha⟩).2.2.2
      obtain ⟨f, rfl⟩ : ∃ g, f = g + 1 := ⟨f - 1, by omega⟩
      have hit : itm N (tt u) K (f + 1) a row h2 = itB N (tt u) K a row (sk N (tt u) h2) (atv N (tt u) (sk N (tt u) h2)) (itm N (tt u) K f) := rfl
      rw [hit, hsk]
      have h2N : h2 ≤ N := hm2.2.2.2.2.2.2.2.2.2
      obtain ⟨hr, htx, e2, e3, e4, e5, e7, e8, e9, e10⟩ := id hm2
      have hlt : atv N (tt u) h2 ≠ -1 → h2 < N := fun z => by
        by_cases h9 : h2 < N
        · exact h9
        · exact absurd (atv_e h9) z
      generalize hse : atv N (tt u) h2 = s at *
      replace H := f1_iload H k185_45 rfl
      replace H := f_iconst H k185_47 (v := -1) (by decide)
      rcases hw with ⟨i, hi, rfl, hc, hno⟩ | ⟨rfl, hno⟩
      · obtain ⟨t1, t2, t3, t4, t5⟩ := kTb_g hK hi
        have hns : ¬ (s = -1 ∨ s = 59) := fun z => z.elim (fun z => t4 (by rw [← z0, hc, z])) (fun z => t5 (by rw [← z0, hc, z]))
        have hpl : plc K s = some i := plc_i hi (by rw [← z0]; exact hc) (fun j hj => by rw [← z0]; exact hno j hj)
        have hpN : h2 < N := hlt (fun z => hns (Or.inl z))
        replace H := f_icmp_eq_f H k185_48 (nI_n1 (N := 4) (by omega) (by omega))
        replace H := f_aload_n H k185_51 rfl
        replace H := f_gi H k185_52 (ci := 12) (f := 11) (by decide +kernel) (by decide)
        replace H := f_iconst H k185_55 (v := -1) (by decide)
        replace H := f_icmp_ne_f H k185_56 e5
        replace H := f_iload H k185_59 rfl
        replace H := f_iload H k185_61 rfl
        obtain ⟨rv, m3, ⟨hz, rfl⟩, h9_63⟩ := f_ins H k185_63 (by decide +kernel) (as := [.int _, .int _]) (r := []) (by rfl) (c_has)
        replace H := h9_63
        rcases hz with ⟨hz, rfl⟩ | ⟨hz, rfl⟩
        · rw [itB_3 hns hpl ((told_1 ha (by omega)).mp hz)]
          replace H := f_if_eq_f H k185_66 (by decide)
          replace H := f_aload_n H k185_69 rfl
          obtain ⟨rv, m', ⟨rfl, rfl⟩, h9_70⟩ := f_inv H k185_70 (by decide +kernel) (as := []) (b := 314) (r := []) (by rfl) (c_mfails e5 e4)
          replace H := h9_70
          replace H := f_pop H k185_73
          replace H := f_ret H k185_74
          exact ⟨_, _, H, rfl, agT_tr hag (agT_Q (agQ_h (Or.inr rfl))), Or.inr ⟨h2, rfl, h2N, Or.inl mI_at⟩⟩
        · have c4 : a.testBit i = false := by
            cases e : a.testBit i with
            | false => rfl
            | true => exact absurd ((told_1 ha (by omega)).mpr e) hz
          replace H := f_if_eq_t H k185_66 rfl (t := 75) (by decide)
          replace H := f_iload H k185_75 rfl
          replace H := f_iconst H k185_77 (v := 1) (by decide)
          replace H := f_iload H k185_78 rfl
          replace H := f_ishl H k185_80
          replace H := f_ior H k185_81
          replace H := f_istore H k185_82 (l2 := [(5, .int _), (6, .int (nI i)), (0, .ref 314), (1, .int (knd K)), (2, .ref C), (3, .int (nI o)), (4, .ref sr)]) rfl
          replace H := f_aload_n H k185_84 rfl
          replace H := f_dup H k185_85
          replace H := f_gi H k185_86 (ci := 12) (f := 10) (by decide +kernel) (by decide)
          replace H := f_iconst H k185_89 (v := 1) (by decide)
          replace H := f_iadd H k185_90
          replace H := f_put_i H k185_91 (ci := 12) (f := 10) (by decide +kernel) (by decide)
          replace H := f_aload_n H k185_94 rfl
          replace H := f_iload_n H k185_95 rfl
          replace H := f_iload H k185_96 rfl
          replace H := f_iadd H k185_98
          replace H := f_aload_n H k185_99 rfl
          replace H := f_iload_n H k185_100 rfl
          replace H := f_iload H k185_101 rfl
          rw [told_o ha (by omega), e4, nI_s, r_ad] at H
          have hm4 := mQ_h hm2 (h2 := h2 + 1) hpN
          have ha4 : agT C o (LK K) m (mI m2 314 10 (nI (h2 + 1))) := agT_tr hag (agT_Q (agQ_h (Or.inl rfl)))
          have hrow4 : ∀ i, i < LK K → (mI m2 314 10 (nI (h2 + 1))).1 C (o + i) = row i := fun i hi => by rw [mI_ne (by omega)]; exact hrow i hi
          generalize mI m2 314 10 (nI (h2 + 1)) = m4 at *
          obtain ⟨rv, m', ⟨rfl, rfl⟩, h9_103⟩ := f_ins H k185_103 (by decide +kernel) (as := [.int _, .int _]) (r := [.ref 314, .int _, .ref C]) (by rfl) (c_leastOf)
          replace H := h9_103
          replace H := f_iload_n H k185_106 rfl
          replace H := f_iload H k185_107 rfl
          obtain ⟨rv, m', ⟨rfl, rfl⟩, h9_109⟩ := f_ins H k185_109 (by decide +kernel) (as := [.int _, .int _]) (r := [.int _, .ref 314, .int _, .ref C]) (by rfl) (c_mostOf)
          replace H := h9_109
          rw [t1, t2] at H
          obtain ⟨rv, m5, ho2, h9_112⟩ := f_inv H k185_112 (by decide +kernel) (as := [.int _, .int _]) (b := 314) (r := [.int _, .ref C]) (by rfl) (c_number hm4)
          replace H := h9_112
          obtain ⟨ha5, ho2⟩ := ho2
          rcases ho2 with ⟨v, h3, x1, rfl, hm5⟩ | ⟨w, v, x1, x2, rfl, x4⟩
          · rw [itB_5 hns hpl c4 x1]
            have h3N : h3 ≤ N := hm5.2.2.2.2.2.2.2.2.2
            have Hob := f_iast H k185_115 (c := cap) hC
            clear H
            obtain ⟨hb115, H⟩ := Hob
            rw [nI_clamp (by omega)] at H
            obtain ⟨m6, em, H⟩ := f_mem H
            have ha6 : agT C o (LK K) m5 m6 := by rw [em]; exact agT_r (by omega) (by omega)
            have hm6 : mQ m6 N h3 u := mQ_T hC1 hC2 hm5 ha6 (by rw [em, mI_ne (by omega)]; exact hm5.2.2.2.2.1) (by rw [em, mI_ne (by omega)]; exact hm5.2.2.2.2.2.1) h3N
            have hrow6 : ∀ j, j < LK K → m6.1 C (o + j) = (fun j => if j = i then v else row j) j := fun j hj => by
              rw [em]
              by_cases e : j = i
              · rw [e, mI_at]; exact (if_pos rfl).symm
              · rw [mI_ne (fun z => e (by omega)), ha5.1 C (o + j) (by omega), hrow4 j hj]
                exact (if_neg e).symm
            have hag6 := agT_tr ha4 (agT_tr (agT_Q ha5) ha6)
            clear em
            replace H := f_aload_n H k185_116 rfl
            replace H := f_gi H k185_117 (ci := 12) (f := 11) (by decide +kernel) (by decide)
            replace H := f_iconst H k185_120 (v := -1) (by decide)
            replace H := f_icmp_ne_f H k185_121 hm6.2.2.2.2.2.1
            replace H := f_aload H k185_124 rfl
            replace H := f_aload_n H k185_126 rfl
            have hh3 : sk N (tt u) h3 ≤ N := sk_le h3N
            have hsk3 : sk N (tt u) (sk N (tt u) h3) = sk N (tt u) h3 := sk_sk h3N
            obtain ⟨rv, m7, ⟨rfl, e9⟩, h9_127⟩ := f_inv H k185_127 (by decide +kernel) (as := []) (b := 314) (r := [.ref sr]) (by rfl) (c_lookQ hm6)
            replace H := h9_127
            have hm7 : mQ m7 N (sk N (tt u) h3) u := by rw [e9]; exact mQ_h hm6 hh3
            have hag7 : agT C o (LK K) m m7 := by rw [e9]; exact agT_tr hag6 (agT_Q (agQ_h (Or.inl rfl)))
            have hrow7 : ∀ j, j < LK K → m7.1 C (o + j) = (fun j => if j = i then v else row j) j := fun j hj => by rw [e9, mI_ne (by omega)]; exact hrow6 j hj
            clear e9
            obtain ⟨rv, m8, ⟨hw7, rfl⟩, h9_130⟩ := f_ins H k185_130 (by decide +kernel) (as := [.ref sr, .int _]) (r := []) (by rfl) (c_spotOf y5 hL4)
            replace H := h9_130
            have hwv : ∃ wt, rv = some (.int wt) ∧ ((∃ i, i < LK K ∧ wt = nI i ∧ cst sr i = atv N (tt u) (sk N (tt u) h3) ∧ ∀ j, j < i → cst sr j ≠ atv N (tt u) (sk N (tt u) h3)) ∨ (wt = -1 ∧ ∀ j, j < LK K → cst sr j ≠ atv N (tt u) (sk N (tt u) h3))) := by
              rcases hw7 with ⟨i, q1, q2, q3, q4⟩ | ⟨q1, q2⟩
              · exact ⟨_, q2, Or.inl ⟨i, q1, rfl, q3, q4⟩⟩
              · exact ⟨_, q1, Or.inr ⟨rfl, q2⟩⟩
            obtain ⟨wt, rfl, hwv⟩ := hwv
            replace H := f_istore H k185_133 (l2 := [(6, .int _), (5, .int (nI (a ||| 2 ^ i))), (0, .ref 314), (1, .int (knd K)), (2, .ref C), (3, .int (nI o)), (4, .ref sr)]) rfl
            replace H := f_goto H k185_135 (t := 45) (by decide)
            have hih := ih (a ||| 2 ^ i) f (sk N (tt u) h3) m7 _ wt (by rw [pcn_s ha (by omega) c4]; omega) (told_l ha (by omega)) hm7 hsk3 hag7 hrow7 hwv H
            rw [show itm N (tt u) K f (a ||| 2 ^ i) (fun j => if j = i then v else row j) h3 = itm N (tt u) K f (a ||| 2 ^ i) (fun j => if j = i then v else row j) (sk N (tt u) h3) by
              cases f with
              | zero => rfl
              | succ f =>
                show itB N (tt u) K _ _ (sk N (tt u) h3) _ _ = itB N (tt u) K _ _ (sk N (tt u) (sk N (tt u) h3)) _ _
                rw [hsk3]]
            exact hih
          · rw [itB_4 hns hpl c4 x1]
            have Hob := f_iast H k185_115 (c := cap) hC
            clear H
            obtain ⟨hb115, H⟩ := Hob
            rw [nI_clamp (by omega)] at H
            obtain ⟨m6, em, H⟩ := f_mem H
            have ha6 : agT C o (LK K) m5 m6 := by rw [em]; exact agT_r (by omega) (by omega)
            have hw6 : m6.1 314 11 = nI w := by rw [em, mI_ne (by omega)]; exact x4
            clear em
            replace H := f_aload_n H k185_116 rfl
            replace H := f_gi H k185_117 (ci := 12) (f := 11) (by decide +kernel) (by decide)
            replace H := f_iconst H k185_120 (v := -1) (by decide)
            replace H := f_icmp_ne_t H k185_121 (by rw [hw6]; exact nI_n1 x2 hN) (t := 45) (by decide)
            replace H := f_iload H k185_45 rfl
            replace H := f_iconst H k185_47 (v := -1) (by decide)
            replace H := f_icmp_eq_f H k185_48 (nI_n1 (N := 4) (by omega) (by omega))
            replace H := f_aload_n H k185_51 rfl
            replace H := f_gi H k185_52 (ci := 12) (f := 11) (by decide +kernel) (by decide)
            replace H := f_iconst H k185_55 (v := -1) (by decide)
            replace H := f_icmp_ne_t H k185_56 (by rw [hw6]; exact nI_n1 x2 hN) (t := 138) (by decide)
            replace H := f_ret H k185_138
            exact ⟨_, _, H, rfl, agT_tr ha4 (agT_tr (agT_Q ha5) ha6), Or.inr ⟨w, rfl, x2, Or.inl hw6⟩⟩
      · replace H := f_icmp_eq_t H k185_48 rfl (t := 138) (by decide)
        replace H := f_ret H k185_138
        have hpl : plc K s = none := plc_n (fun j hj => by rw [← z0]; exact hno j hj)
        by_cases c : s = -1 ∨ s = 59
        · rw [itB_1 c]
          exact ⟨_, _, H, rfl, hag, Or.inl ⟨row, h2, rfl, hm2, hsk, by rw [hse]; exact c, hrow⟩⟩
        · rw [itB_2 c hpl]
          exact ⟨_, _, H, rfl, hag, Or.inr ⟨h2, rfl, h2N, Or.inr ⟨hm2, hsk, by rw [hse]; exact c⟩⟩⟩
  have key1 : ∀ n k m2, k ≤ LK K → mQ m2 N h u → agT C o (LK K) m m2 → (∀ i, i < k → m2.1 C (o + i) = dfT K i) → xF 185 (xw d) P (n + 1) 3 [(5, .int (nI k)), (0, .ref 314), (1, .int (knd K)), (2, .ref C), (3, .int (nI o)), (4, .ref sr)] [] m2 → ∃ rv m', P rv m' ∧ rv = none ∧ miO N u C o (LK K) m (itm N (tt u) K 5 0 (dfT K) h) m' := by
    intro n
    induction n with
    | zero => exact fun k m2 _ _ _ _ H => (xF_0 (f1_iload H k185_3 rfl)).elim
    | succ n ih =>
      intro k m2 hk hm2 hag hrow H
      obtain ⟨hr, htx, e2, e3, e4, e5, e7, e8, e9, e10⟩ := id hm2
      replace H := f1_iload H k185_3 rfl
      replace H := f_aload H k185_5 rfl
      replace H := f_slen H k185_7 (x := (2+K)) (c := (LK K)) (by decide +kernel) y5
      have Hbr := f_icmp_ge H k185_10 (t := 31) (by decide)
      clear H
      rcases Hbr with ⟨c, H⟩ | ⟨c, H⟩
      · rw [nI_lt2 (by omega) (by omega)] at c
        replace H := f_iconst H k185_31 (v := 0) (by decide)
        replace H := f_istore H k185_32 (l2 := [(5, .int 0), (0, .ref 314), (1, .int (knd K)), (2, .ref C), (3, .int (nI o)), (4, .ref sr)]) rfl
        replace H := f_aload H k185_34 rfl
        replace H := f_aload_n H k185_36 rfl
        have hh3 : sk N (tt u) h ≤ N := sk_le e10
        have hsk3 : sk N (tt u) (sk N (tt u) h) = sk N (tt u) h := sk_sk e10
        obtain ⟨rv, m7, ⟨rfl, e9⟩, h9_37⟩ := f_inv H k185_37 (by decide +kernel) (as := []) (b := 314) (r := [.ref sr]) (by rfl) (c_lookQ hm2)
        replace H := h9_37
        have hm7 : mQ m7 N (sk N (tt u) h) u := by rw [e9]; exact mQ_h hm2 hh3
        have hag7 : agT C o (LK K) m m7 := by rw [e9]; exact agT_tr hag (agT_Q (agQ_h (Or.inl rfl)))
        have hrow7 : ∀ j, j < LK K → m7.1 C (o + j) = dfT K j := fun j hj => by rw [e9, mI_ne (by omega)]; exact hrow j (by omega)
        clear e9
        obtain ⟨rv, m8, ⟨hw7, rfl⟩, h9_40⟩ := f_ins H k185_40 (by decide +kernel) (as := [.ref sr, .int _]) (r := []) (by rfl) (c_spotOf y5 hL4)
        replace H := h9_40
        have hwv : ∃ wt, rv = some (.int wt) ∧ ((∃ i, i < LK K ∧ wt = nI i ∧ cst sr i = atv N (tt u) (sk N (tt u) h) ∧ ∀ j, j < i → cst sr j ≠ atv N (tt u) (sk N (tt u) h)) ∨ (wt = -1 ∧ ∀ j, j < LK K → cst sr j ≠ atv N (tt u) (sk N (tt u) h))) := by
          rcases hw7 with ⟨i, q1, q2, q3, q4⟩ | ⟨q1, q2⟩
          · exact ⟨_, q2, Or.inl ⟨i, q1, rfl, q3, q4⟩⟩
          · exact ⟨_, q1, Or.inr ⟨rfl, q2⟩⟩
        obtain ⟨wt, rfl, hwv⟩ := hwv
        replace H := f_istore H k185_43 (l2 := [(6, .int _), (5, .int 0), (0, .ref 314), (1, .int (knd K)), (2, .ref C), (3, .int (nI o)), (4, .ref sr)]) rfl
        have hih := key2 _ 0 5 (sk N (tt u) h) m7 (dfT K) wt rfl (by omega) hm7 hsk3 hag7 hrow7 hwv (f_up H (Nat.le_succ _))
        rw [show itm N (tt u) K 5 0 (dfT K) h = itm N (tt u) K 5 0 (dfT K) (sk N (tt u) h) by
          show itB N (tt u) K _ _ (sk N (tt u) h) _ _ = itB N (tt u) K _ _ (sk N (tt u) (sk N (tt u) h)) _ _
          rw [hsk3]]
        exact hih
      · rw [nI_lt2 (by omega) (by omega)] at c
        replace H := f_aload_n H k185_13 rfl
        replace H := f_iload_n H k185_14 rfl
        replace H := f_iload H k185_15 rfl
        replace H := f_iadd H k185_17
        replace H := f_iload_n H k185_18 rfl
        replace H := f_iload H k185_19 rfl
        obtain ⟨rv, m', ⟨rfl, rfl⟩, h9_21⟩ := f_ins H k185_21 (by decide +kernel) (as := [.int _, .int _]) (r := [.int _, .ref C]) (by rfl) (c_usual)
        replace H := h9_21
        obtain ⟨-, -, t3, -, -⟩ := kTb_g hK (i := k) (by omega)
        have Hob := f_iast H k185_24 (c := cap) hC
        clear H
        obtain ⟨hb24, H⟩ := Hob
        replace H := f_iinc H k185_25 rfl (l2 := [(5, .int ((nI k) + 1)), (0, .ref 314), (1, .int (knd K)), (2, .ref C), (3, .int (nI o)), (4, .ref sr)]) rfl
        replace H := f_goto H k185_28 (t := 3) (by decide)
        rw [r_ad, nI_clamp (by omega), t3, nI_s] at H
        obtain ⟨m6, em, H⟩ := f_mem H
        have ha6 : agT C o (LK K) m2 m6 := by rw [em]; exact agT_r (by omega) (by omega)
        refine ih (k + 1) m6 (by omega) (mQ_T hC1 hC2 hm2 ha6 (by rw [em, mI_ne (by omega)]; exact e4) (by rw [em, mI_ne (by omega)]; exact e5) e10) (agT_tr hag ha6) (fun j hj => ?_) H
        by_cases e : j = k
        · rw [em, e, mI_at]
        · rw [em, mI_ne (by omega)]; exact hrow j (by omega)
  replace H := f_iconst H k185_0 (v := 0) (by decide)
  replace H := f_istore H k185_1 (l2 := [(5, .int 0), (0, .ref 314), (1, .int (knd K)), (2, .ref C), (3, .int (nI o)), (4, .ref sr)]) rfl
  exact key1 n 0 m (by omega) hm agT_0 (fun i hi => by omega) (f_up H (Nat.le_succ _))
theorem k186_0 : lkc 0 (kcode 186) = some (.aload_n 0) := by decide +kernel
theorem k186_1 : lkc 1 (kcode 186) = some (.invokevirtual 132) := by decide +kernel
theorem k186_4 : lkc 4 (kcode 186) = some (.istore_n 1) := by decide +kernel
theorem k186_5 : lkc 5 (kcode 186) = some (.iload_n 1) := by decide +kernel
theorem k186_6 : lkc 6 (kcode 186) = some (.bipush 115) := by decide +kernel
theorem k186_8 : lkc 8 (kcode 186) = some (.if_icmp .ne 10) := by decide +kernel
theorem k186_11 : lkc 11 (kcode 186) = some (.aload_n 0) := by decide +kernel
theorem k186_12 : lkc 12 (kcode 186) = some (.getfield 236) := by decide +kernel
theorem k186_15 : lkc 15 (kcode 186) = some (.ifCond .eq 32) := by decide +kernel
theorem k186_18 : lkc 18 (kcode 186) = some (.iload_n 1) := by decide +kernel
theorem k186_19 : lkc 19 (kcode 186) = some (.bipush 101) := by decide +kernel
theorem k186_21 : lkc 21 (kcode 186) = some (.if_icmp .ne 12) := by decide +kernel
theorem k186_24 : lkc 24 (kcode 186) = some (.aload_n 0) := by decide +kernel
theorem k186_25 : lkc 25 (kcode 186) = some (.getfield 239) := by decide +kernel
theorem k186_28 : lkc 28 (kcode 186) = some (.bipush 12) := by decide +kernel
theorem k186_30 : lkc 30 (kcode 186) = some (.if_icmp .lt 17) := by decide +kernel
theorem k186_33 : lkc 33 (kcode 186) = some (.iload_n 1) := by decide +kernel
theorem k186_34 : lkc 34 (kcode 186) = some (.bipush 112) := by decide +kernel
theorem k186_36 : lkc 36 (kcode 186) = some (.if_icmp .ne 15) := by decide +kernel
theorem k186_39 : lkc 39 (kcode 186) = some (.aload_n 0) := by decide +kernel
theorem k186_40 : lkc 40 (kcode 186) = some (.getfield 242) := by decide +kernel
theorem k186_43 : lkc 43 (kcode 186) = some (.iconst 4) := by decide +kernel
theorem k186_44 : lkc 44 (kcode 186) = some (.if_icmp .ge 7) := by decide +kernel
theorem k186_47 : lkc 47 (kcode 186) = some (.iconst 1) := by decide +kernel
theorem k186_48 : lkc 48 (kcode 186) = some (.goto 4) := by decide +kernel
theorem k186_51 : lkc 51 (kcode 186) = some (.iconst 0) := by decide +kernel
theorem k186_52 : lkc 52 (kcode 186) = some (.istore_n 2) := by decide +kernel
theorem k186_53 : lkc 53 (kcode 186) = some (.iload_n 2) := by decide +kernel
theorem k186_54 : lkc 54 (kcode 186) = some (.ifCond .ne 9) := by decide +kernel
theorem k186_57 : lkc 57 (kcode 186) = some (.aload_n 0) := by decide +kernel
theorem k186_58 : lkc 58 (kcode 186) = some (.invokevirtual 128) := by decide +kernel
theorem k186_61 : lkc 61 (kcode 186) = some (.pop) := by decide +kernel
theorem k186_62 : lkc 62 (kcode 186) = some (.return_) := by decide +kernel
theorem k186_63 : lkc 63 (kcode 186) = some (.aload_n 0) := by decide +kernel
theorem k186_64 : lkc 64 (kcode 186) = some (.dup) := by decide +kernel
theorem k186_65 : lkc 65 (kcode 186) = some (.getfield 113) := by decide +kernel
theorem k186_68 : lkc 68 (kcode 186) = some (.iconst 1) := by decide +kernel
theorem k186_69 : lkc 69 (kcode 186) = some (.iadd) := by decide +kernel
theorem k186_70 : lkc 70 (kcode 186) = some (.putfield 113) := by decide +kernel
theorem k186_73 : lkc 73 (kcode 186) = some (.iload_n 1) := by decide +kernel
theorem k186_74 : lkc 74 (kcode 186) = some (.bipush 115) := by decide +kernel
theorem k186_76 : lkc 76 (kcode 186) = some (.if_icmp .ne 23) := by decide +kernel
theorem k186_79 : lkc 79 (kcode 186) = some (.aload_n 0) := by decide +kernel
theorem k186_80 : lkc 80 (kcode 186) = some (.iconst 1) := by decide +kernel
theorem k186_81 : lkc 81 (kcode 186) = some (.putfield 236) := by decide +kernel
theorem k186_84 : lkc 84 (kcode 186) = some (.aload_n 0) := by decide +kernel
theorem k186_85 : lkc 85 (kcode 186) = some (.iload_n 1) := by decide +kernel
theorem k186_86 : lkc 86 (kcode 186) = some (.aload_n 0) := by decide +kernel
theorem k186_87 : lkc 87 (kcode 186) = some (.getfield 37) := by decide +kernel
theorem k186_90 : lkc 90 (kcode 186) = some (.iconst 0) := by decide +kernel
theorem k186_91 : lkc 91 (kcode 186) = some (.ldc 245) := by decide +kernel
theorem k186_93 : lkc 93 (kcode 186) = some (.invokevirtual 247) := by decide +kernel
theorem k186_96 : lkc 96 (kcode 186) = some (.goto 70) := by decide +kernel
theorem k186_99 : lkc 99 (kcode 186) = some (.iload_n 1) := by decide +kernel
theorem k186_100 : lkc 100 (kcode 186) = some (.bipush 101) := by decide +kernel
theorem k186_102 : lkc 102 (kcode 186) = some (.if_icmp .ne 35) := by decide +kernel
theorem k186_105 : lkc 105 (kcode 186) = some (.aload_n 0) := by decide +kernel
theorem k186_106 : lkc 106 (kcode 186) = some (.dup) := by decide +kernel
theorem k186_107 : lkc 107 (kcode 186) = some (.getfield 239) := by decide +kernel
theorem k186_110 : lkc 110 (kcode 186) = some (.iconst 1) := by decide +kernel
theorem k186_111 : lkc 111 (kcode 186) = some (.iadd) := by decide +kernel
theorem k186_112 : lkc 112 (kcode 186) = some (.putfield 239) := by decide +kernel
theorem k186_115 : lkc 115 (kcode 186) = some (.aload_n 0) := by decide +kernel
theorem k186_116 : lkc 116 (kcode 186) = some (.iload_n 1) := by decide +kernel
theorem k186_117 : lkc 117 (kcode 186) = some (.aload_n 0) := by decide +kernel
theorem k186_118 : lkc 118 (kcode 186) = some (.getfield 43) := by decide +kernel
theorem k186_121 : lkc 121 (kcode 186) = some (.iconst 4) := by decide +kernel
theorem k186_122 : lkc 122 (kcode 186) = some (.aload_n 0) := by decide +kernel
theorem k186_123 : lkc 123 (kcode 186) = some (.getfield 239) := by decide +kernel
theorem k186_126 : lkc 126 (kcode 186) = some (.iconst 1) := by decide +kernel
theorem k186_127 : lkc 127 (kcode 186) = some (.isub) := by decide +kernel
theorem k186_128 : lkc 128 (kcode 186) = some (.imul) := by decide +kernel
theorem k186_129 : lkc 129 (kcode 186) = some (.ldc 251) := by decide +kernel
theorem k186_131 : lkc 131 (kcode 186) = some (.invokevirtual 247) := by decide +kernel
theorem k186_134 : lkc 134 (kcode 186) = some (.goto 32) := by decide +kernel
theorem k186_137 : lkc 137 (kcode 186) = some (.aload_n 0) := by decide +kernel
theorem k186_138 : lkc 138 (kcode 186) = some (.dup) := by decide +kernel
theorem k186_139 : lkc 139 (kcode 186) = some (.getfield 242) := by decide +kernel
theorem k186_142 : lkc 142 (kcode 186) = some (.iconst 1) := by decide +kernel
theorem k186_143 : lkc 143 (kcode 186) = some (.iadd) := by decide +kernel
theorem k186_144 : lkc 144 (kcode 186) = some (.putfield 242) := by decide +kernel
theorem k186_147 : lkc 147 (kcode 186) = some (.aload_n 0) := by decide +kernel
theorem k186_148 : lkc 148 (kcode 186) = some (.iload_n 1) := by decide +kernel
theorem k186_149 : lkc 149 (kcode 186) = some (.aload_n 0) := by decide +kernel
theorem k186_150 : lkc 150 (kcode 186) = some (.getfield 49) := by decide +kernel
theorem k186_153 : lkc 153 (kcode 186) = some (.iconst 2) := by decide +kernel
theorem k186_154 : lkc 154 (kcode 186) = some (.aload_n 0) := by decide +kernel
theorem k186_155 : lkc 155 (kcode 186) = some (.getfield 242) := by decide +kernel
theorem k186_158 : lkc 158 (kcode 186) = some (.iconst 1) := by decide +kernel
theorem k186_159 : lkc 159 (kcode 186) = some (.isub) := by decide +kernel
theorem k186_160 : lkc 160 (kcode 186) = some (.imul) := by decide +kernel
theorem k186_161 : lkc 161 (kcode 186) = some (.ldc 253) := by decide +kernel
theorem k186_163 : lkc 163 (kcode 186) = some (.invokevirtual 247) := by decide +kernel
theorem k186_166 : lkc 166 (kcode 186) = some (.return_) := by decide +kernel
/-! forward: the reference's reader of a town's text: clauses, wholeness, the whole -/
/-- the reference's drafts hold what is told -/
def mlS (m : xM) (S : tST) : Prop := m.1 314 28 = nI S.1 ∧ m.1 314 29 = nI S.2.1 ∧ m.1 314 31 = (if S.2.2.1 then 1 else 0) ∧ (∀ i, i < 2 → m.1 319 i = S.2.2.2 0 0 i) ∧ (∀ s i, s < S.1 → i < 4 → m.1 321 (4 * s + i) = S.2.2.2 1 s i) ∧ (∀ w i, w < S.2.1 → i < 2 → m.1 323 (2 * w + i) = S.2.2.2 2 w i) ∧ S.1 ≤ 12 ∧ S.2.1 ≤ 4
theorem mlS_ne {m m' : xM} {S : tST} (hS : mlS m S) (h : ∀ a i, (a = 314 ∧ 28 ≤ i ∧ i ≤ 31) ∨ (319 ≤ a ∧ a ≤ 323) → m'.1 a i = m.1 a i) : mlS m' S := by
  obtain ⟨s1, s2, s3, s4, s5, s6, s7, s8⟩ := hS
  exact ⟨by rw [h 314 28 (by omega)]; exact s1, by rw [h 314 29 (by omega)]; exact s2, by rw [h 314 31 (by omega)]; exact s3, fun i hi => by rw [h 319 i (by omega)]; exact s4 i hi, fun s i hs hi => by rw [h 321 _ (by omega)]; exact s5 s i hs hi, fun s i hs hi => by rw [h 323 _ (by omega)]; exact s6 s i hs hi, s7, s8⟩
def mcB (r : (tST × Nat) ⊕ Nat) (N : Nat) (u : Nat → Int32) (m' : xM) : Prop := (∃ S2 p, r = .inl (S2, p) ∧ mQ m' N p u ∧ mlS m' S2 ∧ (atv N (tt u) p = -1 ∨ atv N (tt u) p = 59) ∧ sk N (tt u) p = p) ∨ (∃ w, r = .inr w ∧ w ≤ N ∧ (m'.1 314 11 = nI w ∨ (mQ m' N w u ∧ sk N (tt u) w = w ∧ ¬ (atv N (tt u) w = -1 ∨ atv N (tt u) w = 59))))
theorem mQ_o {m : xM} {N h f : Nat} {v : Int32} {u : Nat → Int32} (hm : mQ m N h u) (hf : f ≤ 7 ∨ 12 ≤ f) : mQ (mI m 314 f v) N h u := mQ_ag hm ⟨fun i hi => mI_ne (by omega), funext fun j => mI_ne (by omega), rfl⟩ (by rw [mI_ne (by omega)]; exact hm.2.2.2.2.1) (by rw [mI_ne (by omega)]; exact hm.2.2.2.2.2.1) hm.2.2.2.2.2.2.2.2.2
theorem nI_m4 {a : Nat} : (4 : Int32) * (nI (a + 1) - 1) = nI (4 * a) := by
  rw [nI_1s]
  exact (Int32.ofNat_mul 4 a).symm
theorem nI_m2 {a : Nat} : (2 : Int32) * (nI (a + 1) - 1) = nI (2 * a) := by
  rw [nI_1s]
  exact (Int32.ofNat_mul 2 a).symm
set_option maxHeartbeats 4000000 in
theorem c_mreadClause {m : xM} {N h : Nat} {u : Nat → Int32} {S : tST} (hm : mQ m N h u) (hS : mlS m S) : fC 186 [.ref 314] m (fun rv m' => rv = none ∧ mcB (tcl N (tt u) S h) N u m') := by
  refine fC_of (by decide) (fun d n P H => ?_)
  have hN : N ≤ 240 := hm.2.2.2.2.2.2.2.2.1
  have hh : h ≤ N := hm.2.2.2.2.2.2.2.2.2
  have hp : sk N (tt u) h ≤ N := sk_le hh
  have htc : tcl N (tt u) S h = tcB N (tt u) S (sk N (tt u) h) (atv N (tt u) (sk N (tt u) h)) := rfl
  rw [htc]
  replace H := f_aload_n H k186_0 rfl
  obtain ⟨rv, m1, ⟨rfl, e9⟩, h9_1⟩ := f_inv H k186_1 (by decide +kernel) (as := []) (b := 314) (r := []) (by rfl) (c_lookQ hm)
  replace H := h9_1
  have hm1 : mQ m1 N (sk N (tt u) h) u := by rw [e9]; exact mQ_h hm hp
  have hS1 : mlS m1 S := mlS_ne hS (fun a i h => by rw [e9, mI_ne (by omega)])
  clear e9
  generalize sk N (tt u) h = p at *
  have hlt : atv N (tt u) p ≠ -1 → p < N := fun z => by
    by_cases h9 : p < N
    · exact h9
    · exact absurd (atv_e h9) z
  generalize hse : atv N (tt u) p = s at *
  obtain ⟨s1, s2, s3, s4, s5, s6, s7, s8⟩ := id hS1
  obtain ⟨hr, htx, e2, e3, e4, e5, e7, e8, e9, e10⟩ := id hm1
  have b0 : S.2.2.1 = false ↔ m1.1 314 31 = 0 := by
    rw [s3]
    cases S.2.2.1 with
    | true => simp
    | false => simp
  have b1 : S.1 < 12 ↔ m1.1 314 28 < 12 := by
    rw [s1, Int32.lt_iff_toInt_lt, nI_toInt (by omega), show (12 : Int32).toInt = 12 by decide]
    omega
  have b2 : S.2.1 < 4 ↔ m1.1 314 29 < 4 := by
    rw [s2, Int32.lt_iff_toInt_lt, nI_toInt (by omega), show (4 : Int32).toInt = 4 by decide]
    omega
  -- what the items say is taken over
  have fin : ∀ (K C o : Nat) (m2 m3 : xM) (f : (Nat → Int32) → tST), miO N u C o (LK K) m2 (itm N (tt u) K 5 0 (dfT K) (p + 1)) m3 → (∀ row, (∀ i, i < LK K → m3.1 C (o + i) = row i) → agT C o (LK K) m2 m3 → mlS m3 (f row)) → mcB (tcR (itm N (tt u) K 5 0 (dfT K) (p + 1)) f) N u m3 := by
    intro K C o m2 m3 f ho hf
    obtain ⟨ha, ho⟩ := ho
    rcases ho with ⟨row, q, x1, x2, x3, x4, x5⟩ | ⟨w, x1, x2, x3⟩
    · rw [x1]
      exact Or.inl ⟨f row, q, rfl, x2, hf row x5 ha, x4, x3⟩
    · rw [x1]
      exact Or.inr ⟨w, rfl, x2, x3⟩
  -- nothing fits
  have none3 : ¬ (s = 112 ∧ S.2.1 < 4) → ¬ (s = 101 ∧ S.1 < 12) → ¬ (s = 115 ∧ S.2.2.1 = false) → ∀ n, xF 186 (xw d) P n 51 [(1, .int s), (0, .ref 314)] [] m1 → ∃ rv m', P rv m' ∧ rv = none ∧ mcB (tcB N (tt u) S p s) N u m' := by
    intro n1 n2 n3 n H
    replace H := f_iconst H k186_51 (v := 0) (by decide)
    replace H := f_istore_n H k186_52 (l2 := [(2, .int 0), (1, .int s), (0, .ref 314)]) rfl
    replace H := f_iload_n H k186_53 rfl
    replace H := f_if_ne_f H k186_54 rfl
    replace H := f_aload_n H k186_57 rfl
    obtain ⟨rv, m', ⟨rfl, rfl⟩, h9_58⟩ := f_inv H k186_58 (by decide +kernel) (as := []) (b := 314) (r := []) (by rfl) (c_mfails e5 e4)
    replace H := h9_58
    replace H := f_pop H k186_61
    replace H := f_ret H k186_62
    have e : tcB N (tt u) S p s = .inr p := by unfold tcB; rw [if_neg n3, if_neg n2, if_neg n1]
    rw [e]
    exact ⟨_, _, H, rfl, Or.inr ⟨p, rfl, hp, Or.inl mI_at⟩⟩
  -- one fits
  have some1 : (s = 115 ∧ S.2.2.1 = false) ∨ (s = 101 ∧ S.1 < 12) ∨ (s = 112 ∧ S.2.1 < 4) → ∀ n, xF 186 (xw d) P n 47 [(1, .int s), (0, .ref 314)] [] m1 → ∃ rv m', P rv m' ∧ rv = none ∧ mcB (tcB N (tt u) S p s) N u m' := by
    intro hs n H
    have hpN : p < N := hlt (fun z => by rw [z] at hs; rcases hs with q | q | q <;> exact absurd q.1 (by decide))
    replace H := f_iconst H k186_47 (v := 1) (by decide)
    replace H := f_goto H k186_48 (t := 52) (by decide)
    replace H := f_istore_n H k186_52 (l2 := [(2, .int 1), (1, .int s), (0, .ref 314)]) rfl
    replace H := f_iload_n H k186_53 rfl
    replace H := f_if_ne_t H k186_54 (by decide) (t := 63) (by decide)
    replace H := f_aload_n H k186_63 rfl
    replace H := f_dup H k186_64
    replace H := f_gi H k186_65 (ci := 12) (f := 10) (by decide +kernel) (by decide)
    replace H := f_iconst H k186_68 (v := 1) (by decide)
    replace H := f_iadd H k186_69
    replace H := f_put_i H k186_70 (ci := 12) (f := 10) (by decide +kernel) (by decide)
    replace H := f_iload_n H k186_73 rfl
    replace H := f_bipush H k186_74 (v := 115) (by decide)
    rw [e4, nI_s] at H
    have hm2 := mQ_h hm1 (h2 := p + 1) hpN
    have hS2 : mlS (mI m1 314 10 (nI (p + 1))) S := mlS_ne hS1 (fun a i h => by rw [mI_ne (by omega)])
    generalize mI m1 314 10 (nI (p + 1)) = m2 at *
    obtain ⟨s1, s2, s3, s4, s5, s6, s7, s8⟩ := id hS2
    have Hbr := f_icmp_ne H k186_76 (t := 99) (by decide)
    clear H
    rcases Hbr with ⟨c1, H⟩ | ⟨c1, H⟩
    · replace H := f_iload_n H k186_99 rfl
      replace H := f_bipush H k186_100 (v := 101) (by decide)
      have Hbr := f_icmp_ne H k186_102 (t := 137) (by decide)
      clear H
      rcases Hbr with ⟨c2, H⟩ | ⟨c2, H⟩
      · have hs2 : s = 112 ∧ S.2.1 < 4 := by
          rcases hs with q | q | q
          · exact absurd q.1 c1
          · exact absurd q.1 c2
          · exact q
        obtain ⟨rfl, c4⟩ := hs2
        have e : tcB N (tt u) S p 112 = tcR (itm N (tt u) 2 5 0 (dfT 2) (p + 1)) (fun row => (S.1, S.2.1 + 1, S.2.2.1, ups S.2.2.2 2 S.2.1 row)) := by unfold tcB; rw [if_neg (fun z => c1 z.1), if_neg (fun z => c2 z.1), if_pos ⟨rfl, c4⟩]
        rw [e]
        replace H := f_aload_n H k186_137 rfl
        replace H := f_dup H k186_138
        replace H := f_gi H k186_139 (ci := 12) (f := 29) (by decide +kernel) (by decide)
        replace H := f_iconst H k186_142 (v := 1) (by decide)
        replace H := f_iadd H k186_143
        replace H := f_put_i H k186_144 (ci := 12) (f := 29) (by decide +kernel) (by decide)
        rw [s2, nI_s] at H
        have hm3 := mQ_o (f := 29) (v := nI (S.2.1 + 1)) hm2 (by omega)
        obtain ⟨m3, em, H⟩ := f_mem H
        rw [← em] at hm3
        have hq3 : m3.1 314 29 = nI (S.2.1 + 1) := by rw [em, mI_at]
        have ha3 : ∀ a i, ¬ (a = 314 ∧ i = 29) → m3.1 a i = m2.1 a i := fun a i h => by rw [em, mI_ne h]
        clear em
        have hr := hm3.1
        replace H := f_aload_n H k186_147 rfl
        replace H := f_iload_n H k186_148 rfl
        replace H := f_aload_n H k186_149 rfl
        replace H := f_gr H k186_150 (ci := 12) (f := 22) (x := 323) (by decide +kernel) (by decide) (hr 314 22 323 rfl)
        replace H := f_iconst H k186_153 (v := 2) (by decide)
        replace H := f_aload_n H k186_154 rfl
        replace H := f_gi H k186_155 (ci := 12) (f := 29) (by decide +kernel) (by decide)
        replace H := f_iconst H k186_158 (v := 1) (by decide)
        replace H := f_isub H k186_159
        replace H := f_imul H k186_160
        replace H := f_ldc_r H k186_161 (v := 1004) (by decide +kernel)
        rw [hq3, nI_m2] at H
        obtain ⟨rv, m4, ⟨rfl, ho⟩, h9_163⟩ := f_inv H k186_163 (by decide +kernel) (as := [.int _, .ref 323, .int _, .ref 1004]) (b := 314) (r := []) (by rfl) (c_mreadItems (K := 2) (C := 323) (o := 2 * S.2.1) (cap := 8) (by omega) (by decide) rfl (by omega) (by omega) (by omega) hm3)
        replace H := h9_163
        replace H := f_ret H k186_166
        refine ⟨_, _, H, rfl, fin 2 323 (2 * S.2.1) m3 m4 (fun row => (S.1, S.2.1 + 1, S.2.2.1, ups S.2.2.2 2 S.2.1 row)) ho (fun row hrow ha => ?_)⟩
        have hb : ∀ a i, ¬ (a = 314 ∧ (i = 10 ∨ i = 11)) → ¬ (a = 314 ∧ i = 29) → ¬ (a = 323 ∧ 2 * S.2.1 ≤ i ∧ i < 2 * S.2.1 + 2) → m4.1 a i = m2.1 a i := fun a i h1 h2 h3 => by rw [ha.1 a i h1 h3, ha3 a i h2]
        refine ⟨by rw [hb 314 28 (by omega) (by omega) (by omega)]; exact s1, by rw [ha.1 314 29 (by omega) (by omega)]; exact hq3, by rw [hb 314 31 (by omega) (by omega) (by omega)]; exact s3, fun i hi => ?_, fun q i hq hi => ?_, fun q i hq hi => ?_, s7, by show S.2.1 + 1 ≤ 4; omega⟩
        · rw [hb 319 i (by omega) (by omega) (by omega)]
          show _ = ups S.2.2.2 2 S.2.1 row 0 0 i
          rw [ups_k (by omega)]
          exact s4 i hi
        · rw [hb 321 _ (by omega) (by omega) (by omega)]
          show _ = ups S.2.2.2 2 S.2.1 row 1 q i
          rw [ups_k (by omega)]
          exact s5 q i hq hi
        · show _ = ups S.2.2.2 2 S.2.1 row 2 q i
          have hq2 : q < S.2.1 + 1 := hq
          by_cases eq : q = S.2.1
          · rw [eq, ups_s]
            exact hrow i hi
          · rw [ups_k (fun z => eq z.2), hb 323 _ (by omega) (by omega) (by omega)]
            exact s6 q i (by omega) hi
      · have hs2 : s = 101 ∧ S.1 < 12 := by
          rcases hs with q | q | q
          · exact absurd q.1 c1
          · exact q
          · rw [c2] at q; exact absurd q.1 (by decide)
        obtain ⟨rfl, c4⟩ := hs2
        have e : tcB N (tt u) S p 101 = tcR (itm N (tt u) 1 5 0 (dfT 1) (p + 1)) (fun row => (S.1 + 1, S.2.1, S.2.2.1, ups S.2.2.2 1 S.1 row)) := by unfold tcB; rw [if_neg (fun z => c1 z.1), if_pos ⟨rfl, c4⟩]
        rw [e]
        replace H := f_aload_n H k186_105 rfl
        replace H := f_dup H k186_106
        replace H := f_gi H k186_107 (ci := 12) (f := 28) (by decide +kernel) (by decide)
        replace H := f_iconst H k186_110 (v := 1) (by decide)
        replace H := f_iadd H k186_111
        replace H := f_put_i H k186_112 (ci := 12) (f := 28) (by decide +kernel) (by decide)
        rw [s1, nI_s] at H
        have hm3 := mQ_o (f := 28) (v := nI (S.1 + 1)) hm2 (by omega)
        obtain ⟨m3, em, H⟩ := f_mem H
        rw [← em] at hm3
        have hq3 : m3.1 314 28 = nI (S.1 + 1) := by rw [em, mI_at]
        have ha3 : ∀ a i, ¬ (a = 314 ∧ i = 28) → m3.1 a i = m2.1 a i := fun a i h => by rw [em, mI_ne h]
        clear em
        have hr := hm3.1
        replace H := f_aload_n H k186_115 rfl
        replace H := f_iload_n H k186_116 rfl
        replace H := f_aload_n H k186_117 rfl
        replace H := f_gr H k186_118 (ci := 12) (f := 20) (x := 321) (by decide +kernel) (by decide) (hr 314 20 321 rfl)
        replace H := f_iconst H k186_121 (v := 4) (by decide)
        replace H := f_aload_n H k186_122 rfl
        replace H := f_gi H k186_123 (ci := 12) (f := 28) (by decide +kernel) (by decide)
        replace H := f_iconst H k186_126 (v := 1) (by decide)
        replace H := f_isub H k186_127
        replace H := f_imul H k186_128
        replace H := f_ldc_r H k186_129 (v := 1003) (by decide +kernel)
        rw [hq3, nI_m4] at H
        obtain ⟨rv, m4, ⟨rfl, ho⟩, h9_131⟩ := f_inv H k186_131 (by decide +kernel) (as := [.int _, .ref 321, .int _, .ref 1003]) (b := 314) (r := []) (by rfl) (c_mreadItems (K := 1) (C := 321) (o := 4 * S.1) (cap := 48) (by omega) (by decide) rfl (by omega) (by omega) (by omega) hm3)
        replace H := h9_131
        replace H := f_goto H k186_134 (t := 166) (by decide)
        replace H := f_ret H k186_166
        refine ⟨_, _, H, rfl, fin 1 321 (4 * S.1) m3 m4 (fun row => (S.1 + 1, S.2.1, S.2.2.1, ups S.2.2.2 1 S.1 row)) ho (fun row hrow ha => ?_)⟩
        have hb : ∀ a i, ¬ (a = 314 ∧ (i = 10 ∨ i = 11)) → ¬ (a = 314 ∧ i = 28) → ¬ (a = 321 ∧ 4 * S.1 ≤ i ∧ i < 4 * S.1 + 4) → m4.1 a i = m2.1 a i := fun a i h1 h2 h3 => by rw [ha.1 a i h1 h3, ha3 a i h2]
        refine ⟨by rw [ha.1 314 28 (by omega) (by omega)]; exact hq3, by rw [hb 314 29 (by omega) (by omega) (by omega)]; exact s2, by rw [hb 314 31 (by omega) (by omega) (by omega)]; exact s3, fun i hi => ?_, fun q i hq hi => ?_, fun q i hq hi => ?_, by show S.1 + 1 ≤ 12; omega, s8⟩
        · rw [hb 319 i (by omega) (by omega) (by omega)]
          show _ = ups S.2.2.2 1 S.1 row 0 0 i
          rw [ups_k (by omega)]
          exact s4 i hi
        · show _ = ups S.2.2.2 1 S.1 row 1 q i
          have hq2 : q < S.1 + 1 := hq
          by_cases eq : q = S.1
          · rw [eq, ups_s]
            exact hrow i hi
          · rw [ups_k (fun z => eq z.2), hb 321 _ (by omega) (by omega) (by omega)]
            exact s5 q i (by omega) hi
        · rw [hb 323 _ (by omega) (by omega) (by omega)]
          show _ = ups S.2.2.2 1 S.1 row 2 q i
          rw [ups_k (by omega)]
          exact s6 q i hq hi
    · have hs2 : s = 115 ∧ S.2.2.1 = false := by
        rcases hs with q | q | q
        · exact q
        · rw [c1] at q; exact absurd q.1 (by decide)
        · rw [c1] at q; exact absurd q.1 (by decide)
      obtain ⟨rfl, c4⟩ := hs2
      have e : tcB N (tt u) S p 115 = tcR (itm N (tt u) 0 5 0 (dfT 0) (p + 1)) (fun row => (S.1, S.2.1, true, ups S.2.2.2 0 0 row)) := by unfold tcB; rw [if_pos ⟨rfl, c4⟩]
      rw [e]
      replace H := f_aload_n H k186_79 rfl
      replace H := f_iconst H k186_80 (v := 1) (by decide)
      replace H := f_put_b H k186_81 (ci := 12) (f := 31) (by decide +kernel) (by decide)
      have hm3 := mQ_o (f := 31) (v := 1) hm2 (by omega)
      obtain ⟨m3, em, H⟩ := f_mem H
      rw [← em] at hm3
      have hq3 : m3.1 314 31 = 1 := by rw [em, mI_at]
      have ha3 : ∀ a i, ¬ (a = 314 ∧ i = 31) → m3.1 a i = m2.1 a i := fun a i h => by rw [em, mI_ne h]
      clear em
      have hr := hm3.1
      replace H := f_aload_n H k186_84 rfl
      replace H := f_iload_n H k186_85 rfl
      replace H := f_aload_n H k186_86 rfl
      replace H := f_gr H k186_87 (ci := 12) (f := 18) (x := 319) (by decide +kernel) (by decide) (hr 314 18 319 rfl)
      replace H := f_iconst H k186_90 (v := 0) (by decide)
      replace H := f_ldc_r H k186_91 (v := 1002) (by decide +kernel)
      obtain ⟨rv, m4, ⟨rfl, ho⟩, h9_93⟩ := f_inv H k186_93 (by decide +kernel) (as := [.int _, .ref 319, .int _, .ref 1002]) (b := 314) (r := []) (by rfl) (c_mreadItems (K := 0) (C := 319) (o := 0) (cap := 2) (by omega) (by decide) rfl (by omega) (by omega) (by omega) hm3)
      replace H := h9_93
      replace H := f_goto H k186_96 (t := 166) (by decide)
      replace H := f_ret H k186_166
      refine ⟨_, _, H, rfl, fin 0 319 0 m3 m4 (fun row => (S.1, S.2.1, true, ups S.2.2.2 0 0 row)) ho (fun row hrow ha => ?_)⟩
      have hb : ∀ a i, ¬ (a = 314 ∧ (i = 10 ∨ i = 11)) → ¬ (a = 314 ∧ i = 31) → ¬ (a = 319 ∧ i < 0 + 2) → m4.1 a i = m2.1 a i := fun a i h1 h2 h3 => by rw [ha.1 a i h1 (fun z => h3 ⟨z.1, z.2.2⟩), ha3 a i h2]
      refine ⟨by rw [hb 314 28 (by omega) (by omega) (by omega)]; exact s1, by rw [hb 314 29 (by omega) (by omega) (by omega)]; exact s2, by rw [ha.1 314 31 (by omega) (by omega)]; exact hq3, fun i hi => ?_, fun q i hq hi => ?_, fun q i hq hi => ?_, s7, s8⟩
      · show _ = ups S.2.2.2 0 0 row 0 0 i
        rw [ups_s, ← hrow i hi, Nat.zero_add]
      · rw [hb 321 _ (by omega) (by omega) (by omega)]
        show _ = ups S.2.2.2 0 0 row 1 q i
        rw [ups_k (by omega)]
        exact s5 q i hq hi
      · rw [hb 323 _ (by omega) (by omega) (by omega)]
        show _ = ups S.2.2.2 0 0 row 2 q i
        rw [ups_k (by omega)]
        exact s6 q i hq hi
  have tw3 : ¬ (s = 101 ∧ S.1 < 12) → ¬ (s = 115 ∧ S.2.2.1 = false) → ∀ n, xF 186 (xw d) P n 33 [(1, .int s), (0, .ref 314)] [] m1 → ∃ rv m', P rv m' ∧ rv = none ∧ mcB (tcB N (tt u) S p s) N u m' := by
    intro n2 n3 n H
    replace H := f_iload_n H k186_33 rfl
    replace H := f_bipush H k186_34 (v := 112) (by decide)
    have Hbr := f_icmp_ne H k186_36 (t := 51) (by decide)
    clear H
    rcases Hbr with ⟨c1, H⟩ | ⟨c1, H⟩
    · exact none3 (fun z => c1 z.1) n2 n3 _ H
    replace H := f_aload_n H k186_39 rfl
    replace H := f_gi H k186_40 (ci := 12) (f := 29) (by decide +kernel) (by decide)
    replace H := f_iconst H k186_43 (v := 4) (by decide)
    have Hbr := f_icmp_ge H k186_44 (t := 51) (by decide)
    clear H
    rcases Hbr with ⟨c2, H⟩ | ⟨c2, H⟩
    · exact none3 (fun z => Int32.not_lt.mpr c2 (b2.mp z.2)) n2 n3 _ H
    · exact some1 (Or.inr (Or.inr ⟨c1, b2.mpr (Int32.not_le.mp c2)⟩)) _ H
  have tw2 : ¬ (s = 115 ∧ S.2.2.1 = false) → ∀ n, xF 186 (xw d) P n 18 [(1, .int s), (0, .ref 314)] [] m1 → ∃ rv m', P rv m' ∧ rv = none ∧ mcB (tcB N (tt u) S p s) N u m' := by
    intro n3 n H
    replace H := f_iload_n H k186_18 rfl
    replace H := f_bipush H k186_19 (v := 101) (by decide)
    have Hbr := f_icmp_ne H k186_21 (t := 33) (by decide)
    clear H
    rcases Hbr with ⟨c1, H⟩ | ⟨c1, H⟩
    · exact tw3 (fun z => c1 z.1) n3 _ H
    replace H := f_aload_n H k186_24 rfl
    replace H := f_gi H k186_25 (ci := 12) (f := 28) (by decide +kernel) (by decide)
    replace H := f_bipush H k186_28 (v := 12) (by decide)
    have Hbr := f_icmp_lt H k186_30 (t := 47) (by decide)
    clear H
    rcases Hbr with ⟨c2, H⟩ | ⟨c2, H⟩
    · exact some1 (Or.inr (Or.inl ⟨c1, b1.mpr c2⟩)) _ H
    · exact tw3 (fun z => c2 (b1.mp z.2)) n3 _ H
  replace H := f_istore_n H k186_4 (l2 := [(1, .int _), (0, .ref 314)]) rfl
  replace H := f_iload_n H k186_5 rfl
  replace H := f_bipush H k186_6 (v := 115) (by decide)
  have Hbr := f_icmp_ne H k186_8 (t := 18) (by decide)
  clear H
  rcases Hbr with ⟨c1, H⟩ | ⟨c1, H⟩
  · exact tw2 (fun z => c1 z.1) _ H
  replace H := f_aload_n H k186_11 rfl
  replace H := f_gi H k186_12 (ci := 12) (f := 31) (by decide +kernel) (by decide)
  have Hbr := f_if_eq H k186_15 (t := 47) (by decide)
  clear H
  rcases Hbr with ⟨c2, H⟩ | ⟨c2, H⟩
  · exact some1 (Or.inl ⟨c1, b0.mpr c2⟩) _ H
  · exact tw2 (fun z => c2 (b0.mp z.2)) _ H
theorem k187_0 : lkc 0 (kcode 187) = some (.aload_n 0) := by decide +kernel
theorem k187_1 : lkc 1 (kcode 187) = some (.getfield 37) := by decide +kernel
theorem k187_4 : lkc 4 (kcode 187) = some (.iconst 0) := by decide +kernel
theorem k187_5 : lkc 5 (kcode 187) = some (.iaload) := by decide +kernel
theorem k187_6 : lkc 6 (kcode 187) = some (.istore_n 1) := by decide +kernel
theorem k187_7 : lkc 7 (kcode 187) = some (.iconst 0) := by decide +kernel
theorem k187_8 : lkc 8 (kcode 187) = some (.istore_n 2) := by decide +kernel
theorem k187_9 : lkc 9 (kcode 187) = some (.iload_n 2) := by decide +kernel
theorem k187_10 : lkc 10 (kcode 187) = some (.aload_n 0) := by decide +kernel
theorem k187_11 : lkc 11 (kcode 187) = some (.getfield 239) := by decide +kernel
theorem k187_14 : lkc 14 (kcode 187) = some (.if_icmp .ge 58) := by decide +kernel
theorem k187_17 : lkc 17 (kcode 187) = some (.aload_n 0) := by decide +kernel
theorem k187_18 : lkc 18 (kcode 187) = some (.getfield 43) := by decide +kernel
theorem k187_21 : lkc 21 (kcode 187) = some (.iconst 4) := by decide +kernel
theorem k187_22 : lkc 22 (kcode 187) = some (.iload_n 2) := by decide +kernel
theorem k187_23 : lkc 23 (kcode 187) = some (.imul) := by decide +kernel
theorem k187_24 : lkc 24 (kcode 187) = some (.iaload) := by decide +kernel
theorem k187_25 : lkc 25 (kcode 187) = some (.iload_n 1) := by decide +kernel
theorem k187_26 : lkc 26 (kcode 187) = some (.if_icmp .ge 38) := by decide +kernel
theorem k187_29 : lkc 29 (kcode 187) = some (.aload_n 0) := by decide +kernel
theorem k187_30 : lkc 30 (kcode 187) = some (.getfield 43) := by decide +kernel
theorem k187_33 : lkc 33 (kcode 187) = some (.iconst 4) := by decide +kernel
theorem k187_34 : lkc 34 (kcode 187) = some (.iload_n 2) := by decide +kernel
theorem k187_35 : lkc 35 (kcode 187) = some (.imul) := by decide +kernel
theorem k187_36 : lkc 36 (kcode 187) = some (.iconst 1) := by decide +kernel
theorem k187_37 : lkc 37 (kcode 187) = some (.iadd) := by decide +kernel
theorem k187_38 : lkc 38 (kcode 187) = some (.iaload) := by decide +kernel
theorem k187_39 : lkc 39 (kcode 187) = some (.iload_n 1) := by decide +kernel
theorem k187_40 : lkc 40 (kcode 187) = some (.if_icmp .ge 24) := by decide +kernel
theorem k187_43 : lkc 43 (kcode 187) = some (.aload_n 0) := by decide +kernel
theorem k187_44 : lkc 44 (kcode 187) = some (.getfield 43) := by decide +kernel
theorem k187_47 : lkc 47 (kcode 187) = some (.iconst 4) := by decide +kernel
theorem k187_48 : lkc 48 (kcode 187) = some (.iload_n 2) := by decide +kernel
theorem k187_49 : lkc 49 (kcode 187) = some (.imul) := by decide +kernel
theorem k187_50 : lkc 50 (kcode 187) = some (.iaload) := by decide +kernel
theorem k187_51 : lkc 51 (kcode 187) = some (.aload_n 0) := by decide +kernel
theorem k187_52 : lkc 52 (kcode 187) = some (.getfield 43) := by decide +kernel
theorem k187_55 : lkc 55 (kcode 187) = some (.iconst 4) := by decide +kernel
theorem k187_56 : lkc 56 (kcode 187) = some (.iload_n 2) := by decide +kernel
theorem k187_57 : lkc 57 (kcode 187) = some (.imul) := by decide +kernel
theorem k187_58 : lkc 58 (kcode 187) = some (.iconst 1) := by decide +kernel
theorem k187_59 : lkc 59 (kcode 187) = some (.iadd) := by decide +kernel
theorem k187_60 : lkc 60 (kcode 187) = some (.iaload) := by decide +kernel
theorem k187_61 : lkc 61 (kcode 187) = some (.if_icmp .ne 5) := by decide +kernel
theorem k187_64 : lkc 64 (kcode 187) = some (.iconst 0) := by decide +kernel
theorem k187_65 : lkc 65 (kcode 187) = some (.ireturn) := by decide +kernel
theorem k187_66 : lkc 66 (kcode 187) = some (.iinc 2 1) := by decide +kernel
theorem k187_69 : lkc 69 (kcode 187) = some (.goto (-60)) := by decide +kernel
theorem k187_72 : lkc 72 (kcode 187) = some (.iconst 0) := by decide +kernel
theorem k187_73 : lkc 73 (kcode 187) = some (.istore_n 2) := by decide +kernel
theorem k187_74 : lkc 74 (kcode 187) = some (.iload_n 2) := by decide +kernel
theorem k187_75 : lkc 75 (kcode 187) = some (.aload_n 0) := by decide +kernel
theorem k187_76 : lkc 76 (kcode 187) = some (.getfield 242) := by decide +kernel
theorem k187_79 : lkc 79 (kcode 187) = some (.if_icmp .ge 23) := by decide +kernel
theorem k187_82 : lkc 82 (kcode 187) = some (.aload_n 0) := by decide +kernel
theorem k187_83 : lkc 83 (kcode 187) = some (.getfield 49) := by decide +kernel
theorem k187_86 : lkc 86 (kcode 187) = some (.iconst 2) := by decide +kernel
theorem k187_87 : lkc 87 (kcode 187) = some (.iload_n 2) := by decide +kernel
theorem k187_88 : lkc 88 (kcode 187) = some (.imul) := by decide +kernel
theorem k187_89 : lkc 89 (kcode 187) = some (.iaload) := by decide +kernel
theorem k187_90 : lkc 90 (kcode 187) = some (.iload_n 1) := by decide +kernel
theorem k187_91 : lkc 91 (kcode 187) = some (.if_icmp .lt 5) := by decide +kernel
theorem k187_94 : lkc 94 (kcode 187) = some (.iconst 0) := by decide +kernel
theorem k187_95 : lkc 95 (kcode 187) = some (.ireturn) := by decide +kernel
theorem k187_96 : lkc 96 (kcode 187) = some (.iinc 2 1) := by decide +kernel
theorem k187_99 : lkc 99 (kcode 187) = some (.goto (-25)) := by decide +kernel
theorem k187_102 : lkc 102 (kcode 187) = some (.aload_n 0) := by decide +kernel
theorem k187_103 : lkc 103 (kcode 187) = some (.getfield 239) := by decide +kernel
theorem k187_106 : lkc 106 (kcode 187) = some (.ifCond .le 14) := by decide +kernel
theorem k187_109 : lkc 109 (kcode 187) = some (.aload_n 0) := by decide +kernel
theorem k187_110 : lkc 110 (kcode 187) = some (.getfield 242) := by decide +kernel
theorem k187_113 : lkc 113 (kcode 187) = some (.ifCond .le 7) := by decide +kernel
theorem k187_116 : lkc 116 (kcode 187) = some (.iconst 1) := by decide +kernel
theorem k187_117 : lkc 117 (kcode 187) = some (.goto 4) := by decide +kernel
theorem k187_120 : lkc 120 (kcode 187) = some (.iconst 0) := by decide +kernel
theorem k187_121 : lkc 121 (kcode 187) = some (.ireturn) := by decide +kernel
theorem k188_0 : lkc 0 (kcode 188) = some (.aload_n 0) := by decide +kernel
theorem k188_1 : lkc 1 (kcode 188) = some (.aload_n 0) := by decide +kernel
theorem k188_2 : lkc 2 (kcode 188) = some (.getfield 9) := by decide +kernel
theorem k188_5 : lkc 5 (kcode 188) = some (.iconst 0) := by decide +kernel
theorem k188_6 : lkc 6 (kcode 188) = some (.aload_n 0) := by decide +kernel
theorem k188_7 : lkc 7 (kcode 188) = some (.getfield 103) := by decide +kernel
theorem k188_10 : lkc 10 (kcode 188) = some (.invokevirtual 201) := by decide +kernel
theorem k188_13 : lkc 13 (kcode 188) = some (.aload_n 0) := by decide +kernel
theorem k188_14 : lkc 14 (kcode 188) = some (.iconst 0) := by decide +kernel
theorem k188_15 : lkc 15 (kcode 188) = some (.putfield 239) := by decide +kernel
theorem k188_18 : lkc 18 (kcode 188) = some (.aload_n 0) := by decide +kernel
theorem k188_19 : lkc 19 (kcode 188) = some (.iconst 0) := by decide +kernel
theorem k188_20 : lkc 20 (kcode 188) = some (.putfield 242) := by decide +kernel
theorem k188_23 : lkc 23 (kcode 188) = some (.aload_n 0) := by decide +kernel
theorem k188_24 : lkc 24 (kcode 188) = some (.iconst 0) := by decide +kernel
theorem k188_25 : lkc 25 (kcode 188) = some (.putfield 236) := by decide +kernel
theorem k188_28 : lkc 28 (kcode 188) = some (.aload_n 0) := by decide +kernel
theorem k188_29 : lkc 29 (kcode 188) = some (.getfield 37) := by decide +kernel
theorem k188_32 : lkc 32 (kcode 188) = some (.iconst 0) := by decide +kernel
theorem k188_33 : lkc 33 (kcode 188) = some (.iconst 4) := by decide +kernel
theorem k188_34 : lkc 34 (kcode 188) = some (.iastore) := by decide +kernel
theorem k188_35 : lkc 35 (kcode 188) = some (.aload_n 0) := by decide +kernel
theorem k188_36 : lkc 36 (kcode 188) = some (.getfield 37) := by decide +kernel
theorem k188_39 : lkc 39 (kcode 188) = some (.iconst 1) := by decide +kernel
theorem k188_40 : lkc 40 (kcode 188) = some (.bipush 20) := by decide +kernel
theorem k188_42 : lkc 42 (kcode 188) = some (.iastore) := by decide +kernel
theorem k188_43 : lkc 43 (kcode 188) = some (.iconst 1) := by decide +kernel
theorem k188_44 : lkc 44 (kcode 188) = some (.istore_n 1) := by decide +kernel
theorem k188_45 : lkc 45 (kcode 188) = some (.iload_n 1) := by decide +kernel
theorem k188_46 : lkc 46 (kcode 188) = some (.ifCond .eq 55) := by decide +kernel
theorem k188_49 : lkc 49 (kcode 188) = some (.aload_n 0) := by decide +kernel
theorem k188_50 : lkc 50 (kcode 188) = some (.getfield 122) := by decide +kernel
theorem k188_53 : lkc 53 (kcode 188) = some (.iconst (-1)) := by decide +kernel
theorem k188_54 : lkc 54 (kcode 188) = some (.if_icmp .ne 47) := by decide +kernel
theorem k188_57 : lkc 57 (kcode 188) = some (.aload_n 0) := by decide +kernel
theorem k188_58 : lkc 58 (kcode 188) = some (.invokevirtual 255) := by decide +kernel
theorem k188_61 : lkc 61 (kcode 188) = some (.aload_n 0) := by decide +kernel
theorem k188_62 : lkc 62 (kcode 188) = some (.getfield 122) := by decide +kernel
theorem k188_65 : lkc 65 (kcode 188) = some (.iconst (-1)) := by decide +kernel
theorem k188_66 : lkc 66 (kcode 188) = some (.if_icmp .ne 16) := by decide +kernel
theorem k188_69 : lkc 69 (kcode 188) = some (.aload_n 0) := by decide +kernel
theorem k188_70 : lkc 70 (kcode 188) = some (.invokevirtual 132) := by decide +kernel
theorem k188_73 : lkc 73 (kcode 188) = some (.bipush 59) := by decide +kernel
theorem k188_75 : lkc 75 (kcode 188) = some (.if_icmp .ne 7) := by decide +kernel
theorem k188_78 : lkc 78 (kcode 188) = some (.iconst 1) := by decide +kernel
theorem k188_79 : lkc 79 (kcode 188) = some (.goto 4) := by decide +kernel
theorem k188_82 : lkc 82 (kcode 188) = some (.iconst 0) := by decide +kernel
theorem k188_83 : lkc 83 (kcode 188) = some (.istore_n 1) := by decide +kernel
theorem k188_84 : lkc 84 (kcode 188) = some (.iload_n 1) := by decide +kernel
theorem k188_85 : lkc 85 (kcode 188) = some (.ifCond .eq (-40)) := by decide +kernel
theorem k188_88 : lkc 88 (kcode 188) = some (.aload_n 0) := by decide +kernel
theorem k188_89 : lkc 89 (kcode 188) = some (.dup) := by decide +kernel
theorem k188_90 : lkc 90 (kcode 188) = some (.getfield 113) := by decide +kernel
theorem k188_93 : lkc 93 (kcode 188) = some (.iconst 1) := by decide +kernel
theorem k188_94 : lkc 94 (kcode 188) = some (.iadd) := by decide +kernel
theorem k188_95 : lkc 95 (kcode 188) = some (.putfield 113) := by decide +kernel
theorem k188_98 : lkc 98 (kcode 188) = some (.goto (-53)) := by decide +kernel
theorem k188_101 : lkc 101 (kcode 188) = some (.aload_n 0) := by decide +kernel
theorem k188_102 : lkc 102 (kcode 188) = some (.getfield 122) := by decide +kernel
theorem k188_105 : lkc 105 (kcode 188) = some (.iconst (-1)) := by decide +kernel
theorem k188_106 : lkc 106 (kcode 188) = some (.if_icmp .ne 23) := by decide +kernel
theorem k188_109 : lkc 109 (kcode 188) = some (.aload_n 0) := by decide +kernel
theorem k188_110 : lkc 110 (kcode 188) = some (.invokevirtual 132) := by decide +kernel
theorem k188_113 : lkc 113 (kcode 188) = some (.iconst (-1)) := by decide +kernel
theorem k188_114 : lkc 114 (kcode 188) = some (.if_icmp .ne 10) := by decide +kernel
theorem k188_117 : lkc 117 (kcode 188) = some (.aload_n 0) := by decide +kernel
theorem k188_118 : lkc 118 (kcode 188) = some (.invokevirtual 258) := by decide +kernel
theorem k188_121 : lkc 121 (kcode 188) = some (.ifCond .ne 8) := by decide +kernel
theorem k188_124 : lkc 124 (kcode 188) = some (.aload_n 0) := by decide +kernel
theorem k188_125 : lkc 125 (kcode 188) = some (.invokevirtual 128) := by decide +kernel
theorem k188_128 : lkc 128 (kcode 188) = some (.pop) := by decide +kernel
theorem k188_129 : lkc 129 (kcode 188) = some (.return_) := by decide +kernel
/-! forward: the reference's reader of a town's text: wholeness, the whole -/
theorem nI_4s {s : Nat} : (4 : Int32) * nI s = nI (4 * s) := (Int32.ofNat_mul 4 s).symm
theorem nI_2s {s : Nat} : (2 : Int32) * nI s = nI (2 * s) := (Int32.ofNat_mul 2 s).symm
set_option maxHeartbeats 2000000 in
theorem c_isWhole {m : xM} {S : tST} (hr : rS m) (hS : mlS m S) : fC 187 [.ref 314] m (fun rv m' => ((snd S ∧ rv = some (.int 1)) ∨ (¬ snd S ∧ rv = some (.int 0))) ∧ m = m') := by
  refine fC_of (by decide) (fun d n P H => ?_)
  obtain ⟨s1, s2, s3, s4, s5, s6, s7, s8⟩ := hS
  have hc : m.1 319 0 = S.2.2.2 0 0 0 := s4 0 (by omega)
  have no : ∀ (hn : ¬ snd S), ∀ rv, P rv m → rv = some (.int 0) → ∃ rv m', P rv m' ∧ ((snd S ∧ rv = some (.int 1)) ∨ (¬ snd S ∧ rv = some (.int 0))) ∧ m = m' := fun hn rv h e => ⟨rv, m, h, Or.inr ⟨hn, e⟩, rfl⟩
  have n0 : ∀ a : Nat, a < 13 → (nI a ≤ 0 ↔ a = 0) := fun a ha => by
    rw [Int32.le_iff_toInt_le, nI_toInt (by omega), show (0 : Int32).toInt = 0 by decide]
    omega
  have key2 : (∀ q, q < S.1 → sndA S q) → ∀ n w, w ≤ S.2.1 → (∀ q, q < w → S.2.2.2 2 q 0 < S.2.2.2 0 0 0) → xF 187 (xw d) P (n + 1) 74 [(2, .int (nI w)), (1, .int (S.2.2.2 0 0 0)), (0, .ref 314)] [] m → ∃ rv m', P rv m' ∧ ((snd S ∧ rv = some (.int 1)) ∨ (¬ snd S ∧ rv = some (.int 0))) ∧ m = m' := by
    intro hA n
    induction n with
    | zero => exact fun w _ _ H => (xF_0 (f1_iload_n H k187_74 rfl)).elim
    | succ n ih =>
      intro w hw hB H
      replace H := f1_iload_n H k187_74 rfl
      replace H := f_aload_n H k187_75 rfl
      replace H := f_gi H k187_76 (ci := 12) (f := 29) (by decide +kernel) (by decide)
      rw [s2] at H
      have Hbr := f_icmp_ge H k187_79 (t := 102) (by decide)
      clear H
      rcases Hbr with ⟨c, H⟩ | ⟨c, H⟩
      · rw [nI_lt2 (by omega) (by omega)] at c
        replace H := f_aload_n H k187_102 rfl
        replace H := f_gi H k187_103 (ci := 12) (f := 28) (by decide +kernel) (by decide)
        rw [s1] at H
        have Hbr := f_if_le H k187_106 (t := 120) (by decide)
        clear H
        rcases Hbr with ⟨c1, H⟩ | ⟨c1, H⟩
        · replace H := f_iconst H k187_120 (v := 0) (by decide)
          replace H := f_iret H k187_121
          exact no (fun z => z.1 ((n0 S.1 (by omega)).mp c1)) _ H rfl
        · replace H := f_aload_n H k187_109 rfl
          replace H := f_gi H k187_110 (ci := 12) (f := 29) (by decide +kernel) (by decide)
          rw [s2] at H
          have Hbr := f_if_le H k187_113 (t := 120) (by decide)
          clear H
          rcases Hbr with ⟨c2, H⟩ | ⟨c2, H⟩
          · replace H := f_iconst H k187_120 (v := 0) (by decide)
            replace H := f_iret H k187_121
            exact no (fun z => z.2.1 ((n0 S.2.1 (by omega)).mp c2)) _ H rfl
          · replace H := f_iconst H k187_116 (v := 1) (by decide)
            replace H := f_goto H k187_117 (t := 121) (by decide)
            replace H := f_iret H k187_121
            exact ⟨_, _, H, Or.inl ⟨⟨fun z => c1 ((n0 S.1 (by omega)).mpr z), fun z => c2 ((n0 S.2.1 (by omega)).mpr z), hA, fun q hq => hB q (by omega)⟩, rfl⟩, rfl⟩
      · rw [nI_lt2 (by omega) (by omega)] at c
        replace H := f_aload_n H k187_82 rfl
        replace H := f_gr H k187_83 (ci := 12) (f := 22) (x := 323) (by decide +kernel) (by decide) (hr 314 22 323 rfl)
        replace H := f_iconst H k187_86 (v := 2) (by decide)
        replace H := f_iload_n H k187_87 rfl
        replace H := f_imul H k187_88
        have Hob := f_iald H k187_89 (c := 8) (by decide)
        clear H
        obtain ⟨hb89, H⟩ := Hob
        replace H := f_iload_n H k187_90 rfl
        have e6 := s6 w 0 (by omega) (by omega)
        rw [Nat.add_zero] at e6
        rw [nI_2s, nI_clamp (by omega), e6] at H
        have Hbr := f_icmp_lt H k187_91 (t := 96) (by decide)
        clear H
        rcases Hbr with ⟨c2, H⟩ | ⟨c2, H⟩
        · replace H := f_iinc H k187_96 rfl (l2 := [(2, .int (nI w + 1)), (1, .int (S.2.2.2 0 0 0)), (0, .ref 314)]) rfl
          replace H := f_goto H k187_99 (t := 74) (by decide)
          rw [nI_s] at H
          refine ih (w + 1) (by omega) (fun q hq => ?_) H
          by_cases e : q = w
          · rw [e]; exact c2
          · exact hB q (by omega)
        · replace H := f_iconst H k187_94 (v := 0) (by decide)
          replace H := f_iret H k187_95
          exact no (fun z => c2 (z.2.2.2 w (by omega))) _ H rfl
  have key1 : ∀ n s, s ≤ S.1 → (∀ q, q < s → sndA S q) → xF 187 (xw d) P (n + 1) 9 [(2, .int (nI s)), (1, .int (S.2.2.2 0 0 0)), (0, .ref 314)] [] m → ∃ rv m', P rv m' ∧ ((snd S ∧ rv = some (.int 1)) ∨ (¬ snd S ∧ rv = some (.int 0))) ∧ m = m' := by
    intro n
    induction n with
    | zero => exact fun w _ _ H => (xF_0 (f1_iload_n H k187_9 rfl)).elim
    | succ n ih =>
      intro s hs hA H
      have bad : ¬ sndA S s → s < S.1 → xF 187 (xw d) P (n + 1) 64 [(2, .int (nI s)), (1, .int (S.2.2.2 0 0 0)), (0, .ref 314)] [] m → ∃ rv m', P rv m' ∧ ((snd S ∧ rv = some (.int 1)) ∨ (¬ snd S ∧ rv = some (.int 0))) ∧ m = m' := by
        intro hb hs H
        replace H := f_iconst H k187_64 (v := 0) (by decide)
        replace H := f_iret H k187_65
        exact no (fun z => hb (z.2.2.1 s hs)) _ H rfl
      replace H := f1_iload_n H k187_9 rfl
      replace H := f_aload_n H k187_10 rfl
      replace H := f_gi H k187_11 (ci := 12) (f := 28) (by decide +kernel) (by decide)
      rw [s1] at H
      have Hbr := f_icmp_ge H k187_14 (t := 72) (by decide)
      clear H
      rcases Hbr with ⟨c, H⟩ | ⟨c, H⟩
      · rw [nI_lt2 (by omega) (by omega)] at c
        replace H := f_iconst H k187_72 (v := 0) (by decide)
        replace H := f_istore_n H k187_73 (l2 := [(2, .int 0), (1, .int (S.2.2.2 0 0 0)), (0, .ref 314)]) rfl
        exact key2 (fun q hq => hA q (by omega)) _ 0 (by omega) (fun q hq => by omega) (f_up H (Nat.le_succ _))
      · rw [nI_lt2 (by omega) (by omega)] at c
        have e0 := s5 s 0 (by omega) (by omega)
        have e1 := s5 s 1 (by omega) (by omega)
        rw [Nat.add_zero] at e0
        have q1 : nI (4 * s) + 1 = nI (4 * s + 1) := nI_s _
        replace H := f_aload_n H k187_17 rfl
        replace H := f_gr H k187_18 (ci := 12) (f := 20) (x := 321) (by decide +kernel) (by decide) (hr 314 20 321 rfl)
        replace H := f_iconst H k187_21 (v := 4) (by decide)
        replace H := f_iload_n H k187_22 rfl
        replace H := f_imul H k187_23
        have Hob := f_iald H k187_24 (c := 48) (by decide)
        clear H
        obtain ⟨hb24, H⟩ := Hob
        replace H := f_iload_n H k187_25 rfl
        rw [nI_4s, nI_clamp (by omega), e0] at H
        have Hbr := f_icmp_ge H k187_26 (t := 64) (by decide)
        clear H
        rcases Hbr with ⟨c2, H⟩ | ⟨c2, H⟩
        · exact bad (fun z => Int32.not_lt.mpr c2 z.1) (by omega) H
        replace H := f_aload_n H k187_29 rfl
        replace H := f_gr H k187_30 (ci := 12) (f := 20) (x := 321) (by decide +kernel) (by decide) (hr 314 20 321 rfl)
        replace H := f_iconst H k187_33 (v := 4) (by decide)
        replace H := f_iload_n H k187_34 rfl
        replace H := f_imul H k187_35
        replace H := f_iconst H k187_36 (v := 1) (by decide)
        replace H := f_iadd H k187_37
        have Hob := f_iald H k187_38 (c := 48) (by decide)
        clear H
        obtain ⟨hb38, H⟩ := Hob
        replace H := f_iload_n H k187_39 rfl
        rw [nI_4s, q1, nI_clamp (by omega), e1] at H
        have Hbr := f_icmp_ge H k187_40 (t := 64) (by decide)
        clear H
        rcases Hbr with ⟨c3, H⟩ | ⟨c3, H⟩
        · exact bad (fun z => Int32.not_lt.mpr c3 z.2.1) (by omega) H
        replace H := f_aload_n H k187_43 rfl
        replace H := f_gr H k187_44 (ci := 12) (f := 20) (x := 321) (by decide +kernel) (by decide) (hr 314 20 321 rfl)
        replace H := f_iconst H k187_47 (v := 4) (by decide)
        replace H := f_iload_n H k187_48 rfl
        replace H := f_imul H k187_49
        have Hob := f_iald H k187_50 (c := 48) (by decide)
        clear H
        obtain ⟨hb50, H⟩ := Hob
        replace H := f_aload_n H k187_51 rfl
        replace H := f_gr H k187_52 (ci := 12) (f := 20) (x := 321) (by decide +kernel) (by decide) (hr 314 20 321 rfl)
        replace H := f_iconst H k187_55 (v := 4) (by decide)
        replace H := f_iload_n H k187_56 rfl
        replace H := f_imul H k187_57
        replace H := f_iconst H k187_58 (v := 1) (by decide)
        replace H := f_iadd H k187_59
        have Hob := f_iald H k187_60 (c := 48) (by decide)
        clear H
        obtain ⟨hb60, H⟩ := Hob
        rw [nI_4s, q1, nI_clamp (by omega), nI_clamp (by omega), e0, e1] at H
        have Hbr := f_icmp_ne H k187_61 (t := 66) (by decide)
        clear H
        rcases Hbr with ⟨c4, H⟩ | ⟨c4, H⟩
        · replace H := f_iinc H k187_66 rfl (l2 := [(2, .int (nI s + 1)), (1, .int (S.2.2.2 0 0 0)), (0, .ref 314)]) rfl
          replace H := f_goto H k187_69 (t := 9) (by decide)
          rw [nI_s] at H
          refine ih (s + 1) (by omega) (fun q hq => ?_) H
          by_cases e : q = s
          · rw [e]; exact ⟨Int32.not_le.mp c2, Int32.not_le.mp c3, c4⟩
          · exact hA q (by omega)
        · exact bad (fun z => z.2.2 c4) (by omega) H
  replace H := f_aload_n H k187_0 rfl
  replace H := f_gr H k187_1 (ci := 12) (f := 18) (x := 319) (by decide +kernel) (by decide) (hr 314 18 319 rfl)
  replace H := f_iconst H k187_4 (v := 0) (by decide)
  have Hob := f_iald H k187_5 (c := 2) (by decide)
  clear H
  obtain ⟨hb5, H⟩ := Hob
  replace H := f_istore_n H k187_6 (l2 := [(1, .int _), (0, .ref 314)]) rfl
  replace H := f_iconst H k187_7 (v := 0) (by decide)
  replace H := f_istore_n H k187_8 (l2 := [(2, .int 0), (1, .int _), (0, .ref 314)]) rfl
  rw [show (0 : Int32).toNatClampNeg = 0 by decide, hc] at H
  exact key1 _ 0 (by omega) (fun q hq => by omega) (f_up H (Nat.le_succ _))
/-- what the reference's reading of a town says from h on, S told -/
def mtO (N : Nat) (u : Nat → Int32) (S : tST) (h : Nat) (m' : xM) : Prop := ∃ f r, twR N (tt u) f S h r ∧ ((∃ S2, r = .inl S2 ∧ m'.1 314 11 = -1 ∧ mlS m' S2 ∧ snd S2) ∨ ∃ w, r = .inr w ∧ w ≤ N ∧ m'.1 314 11 = nI w)
theorem c_startsQ {m : xM} {N : Nat} {u : Nat → Int32} (hr : rS m) (hu : m.1 315 = u) (hb : ∀ i, byR (u i)) (hN : N ≤ 240) : fC 177 [.ref 314, .ref 315, .int 0, .int (nI N)] m (fun rv m' => rv = none ∧ mQ m' N 0 u ∧ ∀ a i, ¬ (a = 314 ∧ 8 ≤ i ∧ i ≤ 11) → m'.1 a i = m.1 a i) := by
  refine fC_of (by decide) (fun d n P H => ?_)
  replace H := f_aload_n H k177_0 rfl
  replace H := f_aload_n H k177_1 rfl
  replace H := f_put_r H k177_2 (ci := 12) (f := 5) (by decide +kernel) (by decide)
  replace H := f_aload_n H k177_5 rfl
  replace H := f_iload_n H k177_6 rfl
  replace H := f_put_i H k177_7 (ci := 12) (f := 8) (by decide +kernel) (by decide)
  replace H := f_aload_n H k177_10 rfl
  replace H := f_iload_n H k177_11 rfl
  replace H := f_put_i H k177_12 (ci := 12) (f := 9) (by decide +kernel) (by decide)
  replace H := f_aload_n H k177_15 rfl
  replace H := f_iconst H k177_16 (v := 0) (by decide)
  replace H := f_put_i H k177_17 (ci := 12) (f := 10) (by decide +kernel) (by decide)
  replace H := f_aload_n H k177_20 rfl
  replace H := f_iconst H k177_21 (v := -1) (by decide)
  replace H := f_put_i H k177_22 (ci := 12) (f := 11) (by decide +kernel) (by decide)
  replace H := f_ret H k177_25
  refine ⟨_, _, H, rfl, ⟨rS_t hr, mR_at, ?_, ?_, ?_, ?_, ?_, hb, hN, Nat.zero_le _⟩, fun a i h => ?_⟩
  · rw [mI_ne (by omega), mI_ne (by omega), mI_ne (by omega)]; exact mI_at
  · rw [mI_ne (by omega), mI_ne (by omega)]; exact mI_at
  · rw [mI_ne (by omega)]; exact mI_at
  · exact mI_at
  · rw [← hu]; exact funext fun j => by rw [mI_ne (by omega), mI_ne (by omega), mI_ne (by omega), mI_ne (by omega)]; rfl
  · rw [mI_ne (by omega), mI_ne (by omega), mI_ne (by omega), mI_ne (by omega)]; rfl
set_option maxHeartbeats 4000000 in
theorem c_readTown {m : xM} {N : Nat} {u : Nat → Int32} (hr : rS m) (hu : m.1 315 = u) (hb : ∀ i, byR (u i)) (hN : N ≤ 240) (hl : m.1 314 6 = nI N) : fC 188 [.ref 314] m (fun rv m' => rv = none ∧ mtO N u tw0 0 m') := by
  refine fC_of (by decide) (fun d n P H => ?_)
  -- something is wrong
  have bad : ∀ n m2 w b, m2.1 314 11 = nI w → w ≤ N → xF 188 (xw d) P n 101 [(1, .int b), (0, .ref 314)] [] m2 → P none m2 := by
    intro n m2 w b hw hwN H
    replace H := f_aload_n H k188_101 rfl
    replace H := f_gi H k188_102 (ci := 12) (f := 11) (by decide +kernel) (by decide)
    replace H := f_iconst H k188_105 (v := -1) (by decide)
    replace H := f_icmp_ne_t H k188_106 (by rw [hw]; exact nI_n1 hwN hN) (t := 129) (by decide)
    replace H := f_ret H k188_129
    exact H
  have key : ∀ n S h m2, mQ m2 N h u → mlS m2 S → xF 188 (xw d) P (n + 1) 45 [(1, .int 1), (0, .ref 314)] [] m2 → ∃ rv m', P rv m' ∧ rv = none ∧ mtO N u S h m' := by
    intro n
    induction n with
    | zero => exact fun S h m2 _ _ H => (xF_0 (f1_iload_n H k188_45 rfl)).elim
    | succ n ih =>
      intro S h m2 hm2 hS H
      replace H := f1_iload_n H k188_45 rfl
      replace H := f_if_eq_f H k188_46 (by decide)
      replace H := f_aload_n H k188_49 rfl
      replace H := f_gi H k188_50 (ci := 12) (f := 11) (by decide +kernel) (by decide)
      replace H := f_iconst H k188_53 (v := -1) (by decide)
      replace H := f_icmp_ne_f H k188_54 hm2.2.2.2.2.2.1
      replace H := f_aload_n H k188_57 rfl
      obtain ⟨rv, m3, ⟨rfl, ho⟩, h9_58⟩ := f_inv H k188_58 (by decide +kernel) (as := []) (b := 314) (r := []) (by rfl) (c_mreadClause hm2 hS)
      replace H := h9_58
      replace H := f_aload_n H k188_61 rfl
      replace H := f_gi H k188_62 (ci := 12) (f := 11) (by decide +kernel) (by decide)
      replace H := f_iconst H k188_65 (v := -1) (by decide)
      -- at p, nothing wrong so far, what is ahead is no ;
      have tail : ∀ n m4 p r, mQ m4 N p u → sk N (tt u) p = p → atv N (tt u) p ≠ 59 → (atv N (tt u) p = -1 → ∃ S2, mlS m4 S2 ∧ ((snd S2 → ∃ f, twR N (tt u) f S h (.inl S2)) ∧ (¬ snd S2 → ∃ f, twR N (tt u) f S h (.inr N)))) → (atv N (tt u) p ≠ -1 → ∃ f, twR N (tt u) f S h (.inr p)) → r = 0 → xF 188 (xw d) P n 83 [(1, .int 1), (0, .ref 314)] [.int r] m4 → ∃ rv m', P rv m' ∧ rv = none ∧ mtO N u S h m' := by
        intro n m4 p r hm4 hsk h59 h1 h2 hr0 H
        subst hr0
        have hpN : p ≤ N := hm4.2.2.2.2.2.2.2.2.2
        have e4 : m4 = mI m4 314 10 (nI p) := (mI_self hm4.2.2.2.2.1).symm
        replace H := f_istore_n H k188_83 (l2 := [(1, .int 0), (0, .ref 314)]) rfl
        replace H := f_iload_n H k188_84 rfl
        replace H := f_if_eq_t H k188_85 rfl (t := 45) (by decide)
        replace H := f_iload_n H k188_45 rfl
        replace H := f_if_eq_t H k188_46 rfl (t := 101) (by decide)
        replace H := f_aload_n H k188_101 rfl
        replace H := f_gi H k188_102 (ci := 12) (f := 11) (by decide +kernel) (by decide)
        replace H := f_iconst H k188_105 (v := -1) (by decide)
        replace H := f_icmp_ne_f H k188_106 hm4.2.2.2.2.2.1
        replace H := f_aload_n H k188_109 rfl
        obtain ⟨rv, m5, ⟨rfl, rfl⟩, h9_110⟩ := f_inv H k188_110 (by decide +kernel) (as := []) (b := 314) (r := []) (by rfl) (c_lookQ hm4)
        replace H := h9_110
        rw [hsk, ← e4] at H
        replace H := f_iconst H k188_113 (v := -1) (by decide)
        have Hbr := f_icmp_ne H k188_114 (t := 124) (by decide)
        clear H
        rcases Hbr with ⟨c1, H⟩ | ⟨c1, H⟩
        · replace H := f_aload_n H k188_124 rfl
          obtain ⟨rv, m', ⟨rfl, rfl⟩, h9_125⟩ := f_inv H k188_125 (by decide +kernel) (as := []) (b := 314) (r := []) (by rfl) (c_mfails hm4.2.2.2.2.2.1 hm4.2.2.2.2.1)
          replace H := h9_125
          replace H := f_pop H k188_128
          replace H := f_ret H k188_129
          obtain ⟨f, hf⟩ := h2 c1
          exact ⟨_, _, H, rfl, f, _, hf, Or.inr ⟨p, rfl, hpN, mI_at⟩⟩
        · obtain ⟨S2, hS2, q1, q2⟩ := h1 c1
          have hp2 : p = N := by
            by_cases h9 : p < N
            · rw [atv_t h9] at c1
              exact absurd c1 (by_nn (hm4.2.2.2.2.2.2.2.1 p))
            · omega
          replace H := f_aload_n H k188_117 rfl
          obtain ⟨rv, m5, ⟨hz, rfl⟩, h9_118⟩ := f_inv H k188_118 (by decide +kernel) (as := []) (b := 314) (r := []) (by rfl) (c_isWhole hm4.1 hS2)
          replace H := h9_118
          rcases hz with ⟨hz, rfl⟩ | ⟨hz, rfl⟩
          · replace H := f_if_ne_t H k188_121 (by decide) (t := 129) (by decide)
            replace H := f_ret H k188_129
            obtain ⟨f, hf⟩ := q1 hz
            exact ⟨_, _, H, rfl, f, _, hf, Or.inl ⟨S2, rfl, hm4.2.2.2.2.2.1, hS2, hz⟩⟩
          · replace H := f_if_ne_f H k188_121 rfl
            replace H := f_aload_n H k188_124 rfl
            obtain ⟨rv, m', ⟨rfl, rfl⟩, h9_125⟩ := f_inv H k188_125 (by decide +kernel) (as := []) (b := 314) (r := []) (by rfl) (c_mfails hm4.2.2.2.2.2.1 hm4.2.2.2.2.1)
            replace H := h9_125
            replace H := f_pop H k188_128
            replace H := f_ret H k188_129
            obtain ⟨f, hf⟩ := q2 hz
            exact ⟨_, _, H, rfl, f, _, hf, Or.inr ⟨N, rfl, Nat.le_refl _, by rw [mI_at, hp2]⟩⟩
      rcases ho with ⟨S2, p, x1, hm3, hS3, hat, hsk⟩ | ⟨w, x1, x2, x3⟩
      · have e3 : m3 = mI m3 314 10 (nI p) := (mI_self hm3.2.2.2.2.1).symm
        replace H := f_icmp_ne_f H k188_66 hm3.2.2.2.2.2.1
        replace H := f_aload_n H k188_69 rfl
        obtain ⟨rv, m4, ⟨rfl, rfl⟩, h9_70⟩ := f_inv H k188_70 (by decide +kernel) (as := []) (b := 314) (r := []) (by rfl) (c_lookQ hm3)
        replace H := h9_70
        rw [hsk, ← e3] at H
        replace H := f_bipush H k188_73 (v := 59) (by decide)
        have Hbr := f_icmp_ne H k188_75 (t := 82) (by decide)
        clear H
        rcases Hbr with ⟨c1, H⟩ | ⟨c1, H⟩
        · have h1 : atv N (tt u) p = -1 := hat.resolve_right c1
          replace H := f_iconst H k188_82 (v := 0) (by decide)
          exact tail _ m3 p _ hm3 hsk c1 (fun _ => ⟨S2, hS3, fun z => ⟨1, twR_end x1 h1 z⟩, fun z => ⟨1, twR_uns x1 h1 z⟩⟩) (fun z => absurd h1 z) rfl H
        · have hpN : p < N := by
            by_cases h9 : p < N
            · exact h9
            · rw [atv_e h9] at c1; exact absurd c1 (by decide)
          replace H := f_iconst H k188_78 (v := 1) (by decide)
          replace H := f_goto H k188_79 (t := 83) (by decide)
          replace H := f_istore_n H k188_83 (l2 := [(1, .int 1), (0, .ref 314)]) rfl
          replace H := f_iload_n H k188_84 rfl
          replace H := f_if_eq_f H k188_85 (by decide)
          replace H := f_aload_n H k188_88 rfl
          replace H := f_dup H k188_89
          replace H := f_gi H k188_90 (ci := 12) (f := 10) (by decide +kernel) (by decide)
          replace H := f_iconst H k188_93 (v := 1) (by decide)
          replace H := f_iadd H k188_94
          replace H := f_put_i H k188_95 (ci := 12) (f := 10) (by decide +kernel) (by decide)
          replace H := f_goto H k188_98 (t := 45) (by decide)
          rw [hm3.2.2.2.2.1, nI_s] at H
          have hm4 := mQ_h hm3 (h2 := p + 1) hpN
          obtain ⟨rv, m6, hP, hv, f, r, q1, q2⟩ := ih S2 (p + 1) _ hm4 (mlS_ne hS3 (fun a i h => by rw [mI_ne (by omega)])) H
          exact ⟨rv, m6, hP, hv, f + 1, r, twR_go x1 (fun z => by rw [z] at c1; exact absurd c1 (by decide)) q1, q2⟩
      · rcases x3 with x3 | ⟨hm3, hsk, hno⟩
        · replace H := f_icmp_ne_t H k188_66 (by rw [x3]; exact nI_n1 x2 hN) (t := 82) (by decide)
          replace H := f_iconst H k188_82 (v := 0) (by decide)
          replace H := f_istore_n H k188_83 (l2 := [(1, .int 0), (0, .ref 314)]) rfl
          replace H := f_iload_n H k188_84 rfl
          replace H := f_if_eq_t H k188_85 rfl (t := 45) (by decide)
          replace H := f_iload_n H k188_45 rfl
          replace H := f_if_eq_t H k188_46 rfl (t := 101) (by decide)
          exact ⟨_, _, bad _ _ w _ x3 x2 H, rfl, 1, _, twR_bad x1, Or.inr ⟨w, rfl, x2, x3⟩⟩
        · have e3 : m3 = mI m3 314 10 (nI w) := (mI_self hm3.2.2.2.2.1).symm
          replace H := f_icmp_ne_f H k188_66 hm3.2.2.2.2.2.1
          replace H := f_aload_n H k188_69 rfl
          obtain ⟨rv, m4, ⟨rfl, rfl⟩, h9_70⟩ := f_inv H k188_70 (by decide +kernel) (as := []) (b := 314) (r := []) (by rfl) (c_lookQ hm3)
          replace H := h9_70
          rw [hsk, ← e3] at H
          replace H := f_bipush H k188_73 (v := 59) (by decide)
          replace H := f_icmp_ne_t H k188_75 (fun z => hno (Or.inr z)) (t := 82) (by decide)
          replace H := f_iconst H k188_82 (v := 0) (by decide)
          exact tail _ m3 w _ hm3 hsk (fun z => hno (Or.inr z)) (fun z => absurd (Or.inl z) hno) (fun _ => ⟨1, twR_bad x1⟩) rfl H
  replace H := f_aload_n H k188_0 rfl
  replace H := f_aload_n H k188_1 rfl
  replace H := f_gr H k188_2 (ci := 12) (f := 1) (x := 315) (by decide +kernel) (by decide) (hr 314 1 315 rfl)
  replace H := f_iconst H k188_5 (v := 0) (by decide)
  replace H := f_aload_n H k188_6 rfl
  replace H := f_gi H k188_7 (ci := 12) (f := 6) (by decide +kernel) (by decide)
  rw [hl] at H
  obtain ⟨rv, m1, ⟨rfl, hm1, g1⟩, h9_10⟩ := f_inv H k188_10 (by decide +kernel) (as := [.ref 315, .int _, .int _]) (b := 314) (r := []) (by rfl) (c_startsQ hr hu hb hN)
  replace H := h9_10
  have hm2 := mQ_o (f := 31) (v := 0) (mQ_o (f := 29) (v := 0) (mQ_o (f := 28) (v := 0) hm1 (by omega)) (by omega)) (by omega)
  replace H := f_aload_n H k188_13 rfl
  replace H := f_iconst H k188_14 (v := 0) (by decide)
  replace H := f_put_i H k188_15 (ci := 12) (f := 28) (by decide +kernel) (by decide)
  replace H := f_aload_n H k188_18 rfl
  replace H := f_iconst H k188_19 (v := 0) (by decide)
  replace H := f_put_i H k188_20 (ci := 12) (f := 29) (by decide +kernel) (by decide)
  replace H := f_aload_n H k188_23 rfl
  replace H := f_iconst H k188_24 (v := 0) (by decide)
  replace H := f_put_b H k188_25 (ci := 12) (f := 31) (by decide +kernel) (by decide)
  obtain ⟨m2, em, H⟩ := f_mem H
  rw [← em] at hm2
  have q28 : m2.1 314 28 = 0 := by rw [em, mI_ne (by omega), mI_ne (by omega), mI_at]
  have q29 : m2.1 314 29 = 0 := by rw [em, mI_ne (by omega), mI_at]
  have q31 : m2.1 314 31 = 0 := by rw [em, mI_at]
  clear em
  have hr := hm2.1
  replace H := f_aload_n H k188_28 rfl
  replace H := f_gr H k188_29 (ci := 12) (f := 18) (x := 319) (by decide +kernel) (by decide) (hr 314 18 319 rfl)
  replace H := f_iconst H k188_32 (v := 0) (by decide)
  replace H := f_iconst H k188_33 (v := 4) (by decide)
  have Hob := f_iast H k188_34 (c := 2) (by decide)
  clear H
  obtain ⟨hb34, H⟩ := Hob
  replace H := f_aload_n H k188_35 rfl
  replace H := f_gr H k188_36 (ci := 12) (f := 18) (x := 319) (by decide +kernel) (by decide) (hr 314 18 319 rfl)
  replace H := f_iconst H k188_39 (v := 1) (by decide)
  replace H := f_bipush H k188_40 (v := 20) (by decide)
  have Hob := f_iast H k188_42 (c := 2) (by decide)
  clear H
  obtain ⟨hb42, H⟩ := Hob
  replace H := f_iconst H k188_43 (v := 1) (by decide)
  replace H := f_istore_n H k188_44 (l2 := [(1, .int 1), (0, .ref 314)]) rfl
  have q0 : (0 : Int32).toNatClampNeg = 0 := by decide
  have q1 : (1 : Int32).toNatClampNeg = 1 := by decide
  rw [q0, q1] at H
  obtain ⟨m3, em, H⟩ := f_mem H
  have hm3 : mQ m3 N 0 u := mQ_ag hm2 ⟨fun i hi => by rw [em, mI_ne (by omega), mI_ne (by omega)], by rw [em]; exact funext fun j => by rw [mI_ne (by omega), mI_ne (by omega)], by rw [em]; rfl⟩ (by rw [em, mI_ne (by omega), mI_ne (by omega)]; exact hm2.2.2.2.2.1) (by rw [em, mI_ne (by omega), mI_ne (by omega)]; exact hm2.2.2.2.2.2.1) (Nat.zero_le _)
  have hS3 : mlS m3 tw0 := by
    refine ⟨?_, ?_, ?_, fun i hi => ?_, fun s i hs => absurd hs (Nat.not_lt_zero _), fun s i hs => absurd hs (Nat.not_lt_zero _), Nat.zero_le _, Nat.zero_le _⟩
    · rw [em, mI_ne (by omega), mI_ne (by omega)]; exact q28
    · rw [em, mI_ne (by omega), mI_ne (by omega)]; exact q29
    · rw [em, mI_ne (by omega), mI_ne (by omega)]; exact q31
    · rw [em]
      match i, hi with
      | 0, _ => rw [mI_ne (by omega), mI_at]; decide
      | 1, _ => rw [mI_at]; decide
  exact key _ tw0 0 m3 hm3 hS3 (f_up H (Nat.le_succ _))
