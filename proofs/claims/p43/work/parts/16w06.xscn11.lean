theorem k116_0 : lkc 0 (kcode 116) = some (.aload_n 0) := by decide +kernel
theorem k116_1 : lkc 1 (kcode 116) = some (.iload_n 1) := by decide +kernel
theorem k116_2 : lkc 2 (kcode 116) = some (.invokevirtual 159) := by decide +kernel
theorem k116_5 : lkc 5 (kcode 116) = some (.ifCond .eq 27) := by decide +kernel
theorem k116_8 : lkc 8 (kcode 116) = some (.aload_n 0) := by decide +kernel
theorem k116_9 : lkc 9 (kcode 116) = some (.getfield 75) := by decide +kernel
theorem k116_12 : lkc 12 (kcode 116) = some (.getfield 226) := by decide +kernel
theorem k116_15 : lkc 15 (kcode 116) = some (.iconst 2) := by decide +kernel
theorem k116_16 : lkc 16 (kcode 116) = some (.if_icmp .lt 16) := by decide +kernel
theorem k116_19 : lkc 19 (kcode 116) = some (.aload_n 0) := by decide +kernel
theorem k116_20 : lkc 20 (kcode 116) = some (.getfield 75) := by decide +kernel
theorem k116_23 : lkc 23 (kcode 116) = some (.getfield 167) := by decide +kernel
theorem k116_26 : lkc 26 (kcode 116) = some (.iload_n 1) := by decide +kernel
theorem k116_27 : lkc 27 (kcode 116) = some (.iaload) := by decide +kernel
theorem k116_28 : lkc 28 (kcode 116) = some (.iconst 3) := by decide +kernel
theorem k116_29 : lkc 29 (kcode 116) = some (.if_icmp .lt 5) := by decide +kernel
theorem k116_32 : lkc 32 (kcode 116) = some (.iconst (-1)) := by decide +kernel
theorem k116_33 : lkc 33 (kcode 116) = some (.ireturn) := by decide +kernel
theorem k116_34 : lkc 34 (kcode 116) = some (.aload_n 0) := by decide +kernel
theorem k116_35 : lkc 35 (kcode 116) = some (.getfield 85) := by decide +kernel
theorem k116_38 : lkc 38 (kcode 116) = some (.aload_n 0) := by decide +kernel
theorem k116_39 : lkc 39 (kcode 116) = some (.getfield 75) := by decide +kernel
theorem k116_42 : lkc 42 (kcode 116) = some (.invokevirtual 243) := by decide +kernel
theorem k116_45 : lkc 45 (kcode 116) = some (.aload_n 0) := by decide +kernel
theorem k116_46 : lkc 46 (kcode 116) = some (.getfield 75) := by decide +kernel
theorem k116_49 : lkc 49 (kcode 116) = some (.dup) := by decide +kernel
theorem k116_50 : lkc 50 (kcode 116) = some (.getfield 226) := by decide +kernel
theorem k116_53 : lkc 53 (kcode 116) = some (.iconst 2) := by decide +kernel
theorem k116_54 : lkc 54 (kcode 116) = some (.isub) := by decide +kernel
theorem k116_55 : lkc 55 (kcode 116) = some (.putfield 226) := by decide +kernel
theorem k116_58 : lkc 58 (kcode 116) = some (.aload_n 0) := by decide +kernel
theorem k116_59 : lkc 59 (kcode 116) = some (.getfield 75) := by decide +kernel
theorem k116_62 : lkc 62 (kcode 116) = some (.getfield 167) := by decide +kernel
theorem k116_65 : lkc 65 (kcode 116) = some (.iload_n 1) := by decide +kernel
theorem k116_66 : lkc 66 (kcode 116) = some (.dup2) := by decide +kernel
theorem k116_67 : lkc 67 (kcode 116) = some (.iaload) := by decide +kernel
theorem k116_68 : lkc 68 (kcode 116) = some (.iconst 1) := by decide +kernel
theorem k116_69 : lkc 69 (kcode 116) = some (.iadd) := by decide +kernel
theorem k116_70 : lkc 70 (kcode 116) = some (.iastore) := by decide +kernel
theorem k116_71 : lkc 71 (kcode 116) = some (.aload_n 0) := by decide +kernel
theorem k116_72 : lkc 72 (kcode 116) = some (.getfield 75) := by decide +kernel
theorem k116_75 : lkc 75 (kcode 116) = some (.getfield 167) := by decide +kernel
theorem k116_78 : lkc 78 (kcode 116) = some (.iload_n 1) := by decide +kernel
theorem k116_79 : lkc 79 (kcode 116) = some (.iaload) := by decide +kernel
theorem k116_80 : lkc 80 (kcode 116) = some (.ireturn) := by decide +kernel
theorem k117_0 : lkc 0 (kcode 117) = some (.aload_n 0) := by decide +kernel
theorem k117_1 : lkc 1 (kcode 117) = some (.iload_n 1) := by decide +kernel
theorem k117_2 : lkc 2 (kcode 117) = some (.invokevirtual 196) := by decide +kernel
theorem k117_5 : lkc 5 (kcode 117) = some (.ifCond .eq 35) := by decide +kernel
theorem k117_8 : lkc 8 (kcode 117) = some (.aload_n 0) := by decide +kernel
theorem k117_9 : lkc 9 (kcode 117) = some (.iload_n 2) := by decide +kernel
theorem k117_10 : lkc 10 (kcode 117) = some (.invokevirtual 159) := by decide +kernel
theorem k117_13 : lkc 13 (kcode 117) = some (.ifCond .eq 27) := by decide +kernel
theorem k117_16 : lkc 16 (kcode 117) = some (.aload_n 0) := by decide +kernel
theorem k117_17 : lkc 17 (kcode 117) = some (.getfield 75) := by decide +kernel
theorem k117_20 : lkc 20 (kcode 117) = some (.getfield 226) := by decide +kernel
theorem k117_23 : lkc 23 (kcode 117) = some (.iconst 1) := by decide +kernel
theorem k117_24 : lkc 24 (kcode 117) = some (.if_icmp .lt 16) := by decide +kernel
theorem k117_27 : lkc 27 (kcode 117) = some (.aload_n 0) := by decide +kernel
theorem k117_28 : lkc 28 (kcode 117) = some (.getfield 75) := by decide +kernel
theorem k117_31 : lkc 31 (kcode 117) = some (.getfield 206) := by decide +kernel
theorem k117_34 : lkc 34 (kcode 117) = some (.iload_n 1) := by decide +kernel
theorem k117_35 : lkc 35 (kcode 117) = some (.iaload) := by decide +kernel
theorem k117_36 : lkc 36 (kcode 117) = some (.iload_n 2) := by decide +kernel
theorem k117_37 : lkc 37 (kcode 117) = some (.if_icmp .ne 5) := by decide +kernel
theorem k117_40 : lkc 40 (kcode 117) = some (.iconst (-1)) := by decide +kernel
theorem k117_41 : lkc 41 (kcode 117) = some (.ireturn) := by decide +kernel
theorem k117_42 : lkc 42 (kcode 117) = some (.aload_n 0) := by decide +kernel
theorem k117_43 : lkc 43 (kcode 117) = some (.getfield 85) := by decide +kernel
theorem k117_46 : lkc 46 (kcode 117) = some (.aload_n 0) := by decide +kernel
theorem k117_47 : lkc 47 (kcode 117) = some (.getfield 75) := by decide +kernel
theorem k117_50 : lkc 50 (kcode 117) = some (.invokevirtual 243) := by decide +kernel
theorem k117_53 : lkc 53 (kcode 117) = some (.aload_n 0) := by decide +kernel
theorem k117_54 : lkc 54 (kcode 117) = some (.getfield 75) := by decide +kernel
theorem k117_57 : lkc 57 (kcode 117) = some (.dup) := by decide +kernel
theorem k117_58 : lkc 58 (kcode 117) = some (.getfield 226) := by decide +kernel
theorem k117_61 : lkc 61 (kcode 117) = some (.iconst 1) := by decide +kernel
theorem k117_62 : lkc 62 (kcode 117) = some (.isub) := by decide +kernel
theorem k117_63 : lkc 63 (kcode 117) = some (.putfield 226) := by decide +kernel
theorem k117_66 : lkc 66 (kcode 117) = some (.aload_n 0) := by decide +kernel
theorem k117_67 : lkc 67 (kcode 117) = some (.getfield 75) := by decide +kernel
theorem k117_70 : lkc 70 (kcode 117) = some (.getfield 206) := by decide +kernel
theorem k117_73 : lkc 73 (kcode 117) = some (.iload_n 1) := by decide +kernel
theorem k117_74 : lkc 74 (kcode 117) = some (.iaload) := by decide +kernel
theorem k117_75 : lkc 75 (kcode 117) = some (.istore_n 3) := by decide +kernel
theorem k117_76 : lkc 76 (kcode 117) = some (.aload_n 0) := by decide +kernel
theorem k117_77 : lkc 77 (kcode 117) = some (.getfield 75) := by decide +kernel
theorem k117_80 : lkc 80 (kcode 117) = some (.getfield 206) := by decide +kernel
theorem k117_83 : lkc 83 (kcode 117) = some (.iload_n 1) := by decide +kernel
theorem k117_84 : lkc 84 (kcode 117) = some (.iload_n 2) := by decide +kernel
theorem k117_85 : lkc 85 (kcode 117) = some (.iastore) := by decide +kernel
theorem k117_86 : lkc 86 (kcode 117) = some (.iload_n 3) := by decide +kernel
theorem k117_87 : lkc 87 (kcode 117) = some (.ireturn) := by decide +kernel
theorem k118_0 : lkc 0 (kcode 118) = some (.aload_n 0) := by decide +kernel
theorem k118_1 : lkc 1 (kcode 118) = some (.iload_n 1) := by decide +kernel
theorem k118_2 : lkc 2 (kcode 118) = some (.invokevirtual 196) := by decide +kernel
theorem k118_5 : lkc 5 (kcode 118) = some (.ifCond .eq 28) := by decide +kernel
theorem k118_8 : lkc 8 (kcode 118) = some (.aload_n 0) := by decide +kernel
theorem k118_9 : lkc 9 (kcode 118) = some (.getfield 75) := by decide +kernel
theorem k118_12 : lkc 12 (kcode 118) = some (.getfield 226) := by decide +kernel
theorem k118_15 : lkc 15 (kcode 118) = some (.iconst 4) := by decide +kernel
theorem k118_16 : lkc 16 (kcode 118) = some (.if_icmp .lt 17) := by decide +kernel
theorem k118_19 : lkc 19 (kcode 118) = some (.aload_n 0) := by decide +kernel
theorem k118_20 : lkc 20 (kcode 118) = some (.getfield 75) := by decide +kernel
theorem k118_23 : lkc 23 (kcode 118) = some (.getfield 209) := by decide +kernel
theorem k118_26 : lkc 26 (kcode 118) = some (.iload_n 1) := by decide +kernel
theorem k118_27 : lkc 27 (kcode 118) = some (.iaload) := by decide +kernel
theorem k118_28 : lkc 28 (kcode 118) = some (.bipush 9) := by decide +kernel
theorem k118_30 : lkc 30 (kcode 118) = some (.if_icmp .lt 5) := by decide +kernel
theorem k118_33 : lkc 33 (kcode 118) = some (.iconst (-1)) := by decide +kernel
theorem k118_34 : lkc 34 (kcode 118) = some (.ireturn) := by decide +kernel
theorem k118_35 : lkc 35 (kcode 118) = some (.aload_n 0) := by decide +kernel
theorem k118_36 : lkc 36 (kcode 118) = some (.getfield 85) := by decide +kernel
theorem k118_39 : lkc 39 (kcode 118) = some (.aload_n 0) := by decide +kernel
theorem k118_40 : lkc 40 (kcode 118) = some (.getfield 75) := by decide +kernel
theorem k118_43 : lkc 43 (kcode 118) = some (.invokevirtual 243) := by decide +kernel
theorem k118_46 : lkc 46 (kcode 118) = some (.aload_n 0) := by decide +kernel
theorem k118_47 : lkc 47 (kcode 118) = some (.getfield 75) := by decide +kernel
theorem k118_50 : lkc 50 (kcode 118) = some (.dup) := by decide +kernel
theorem k118_51 : lkc 51 (kcode 118) = some (.getfield 226) := by decide +kernel
theorem k118_54 : lkc 54 (kcode 118) = some (.iconst 4) := by decide +kernel
theorem k118_55 : lkc 55 (kcode 118) = some (.isub) := by decide +kernel
theorem k118_56 : lkc 56 (kcode 118) = some (.putfield 226) := by decide +kernel
theorem k118_59 : lkc 59 (kcode 118) = some (.aload_n 0) := by decide +kernel
theorem k118_60 : lkc 60 (kcode 118) = some (.getfield 75) := by decide +kernel
theorem k118_63 : lkc 63 (kcode 118) = some (.getfield 209) := by decide +kernel
theorem k118_66 : lkc 66 (kcode 118) = some (.iload_n 1) := by decide +kernel
theorem k118_67 : lkc 67 (kcode 118) = some (.dup2) := by decide +kernel
theorem k118_68 : lkc 68 (kcode 118) = some (.iaload) := by decide +kernel
theorem k118_69 : lkc 69 (kcode 118) = some (.iconst 1) := by decide +kernel
theorem k118_70 : lkc 70 (kcode 118) = some (.iadd) := by decide +kernel
theorem k118_71 : lkc 71 (kcode 118) = some (.iastore) := by decide +kernel
theorem k118_72 : lkc 72 (kcode 118) = some (.aload_n 0) := by decide +kernel
theorem k118_73 : lkc 73 (kcode 118) = some (.getfield 75) := by decide +kernel
theorem k118_76 : lkc 76 (kcode 118) = some (.getfield 209) := by decide +kernel
theorem k118_79 : lkc 79 (kcode 118) = some (.iload_n 1) := by decide +kernel
theorem k118_80 : lkc 80 (kcode 118) = some (.iaload) := by decide +kernel
theorem k118_81 : lkc 81 (kcode 118) = some (.ireturn) := by decide +kernel
theorem k119_0 : lkc 0 (kcode 119) = some (.aload_n 0) := by decide +kernel
theorem k119_1 : lkc 1 (kcode 119) = some (.invokevirtual 239) := by decide +kernel
theorem k119_4 : lkc 4 (kcode 119) = some (.ifCond .eq 29) := by decide +kernel
theorem k119_7 : lkc 7 (kcode 119) = some (.iload_n 1) := by decide +kernel
theorem k119_8 : lkc 8 (kcode 119) = some (.iconst 1) := by decide +kernel
theorem k119_9 : lkc 9 (kcode 119) = some (.if_icmp .lt 24) := by decide +kernel
theorem k119_12 : lkc 12 (kcode 119) = some (.iload_n 1) := by decide +kernel
theorem k119_13 : lkc 13 (kcode 119) = some (.bipush 50) := by decide +kernel
theorem k119_15 : lkc 15 (kcode 119) = some (.if_icmp .gt 18) := by decide +kernel
theorem k119_18 : lkc 18 (kcode 119) = some (.aload_n 0) := by decide +kernel
theorem k119_19 : lkc 19 (kcode 119) = some (.getfield 75) := by decide +kernel
theorem k119_22 : lkc 22 (kcode 119) = some (.getfield 226) := by decide +kernel
theorem k119_25 : lkc 25 (kcode 119) = some (.iload_n 1) := by decide +kernel
theorem k119_26 : lkc 26 (kcode 119) = some (.iadd) := by decide +kernel
theorem k119_27 : lkc 27 (kcode 119) = some (.sipush 999) := by decide +kernel
theorem k119_30 : lkc 30 (kcode 119) = some (.if_icmp .le 5) := by decide +kernel
theorem k119_33 : lkc 33 (kcode 119) = some (.iconst (-1)) := by decide +kernel
theorem k119_34 : lkc 34 (kcode 119) = some (.ireturn) := by decide +kernel
theorem k119_35 : lkc 35 (kcode 119) = some (.aload_n 0) := by decide +kernel
theorem k119_36 : lkc 36 (kcode 119) = some (.getfield 85) := by decide +kernel
theorem k119_39 : lkc 39 (kcode 119) = some (.aload_n 0) := by decide +kernel
theorem k119_40 : lkc 40 (kcode 119) = some (.getfield 75) := by decide +kernel
theorem k119_43 : lkc 43 (kcode 119) = some (.invokevirtual 243) := by decide +kernel
theorem k119_46 : lkc 46 (kcode 119) = some (.aload_n 0) := by decide +kernel
theorem k119_47 : lkc 47 (kcode 119) = some (.getfield 75) := by decide +kernel
theorem k119_50 : lkc 50 (kcode 119) = some (.dup) := by decide +kernel
theorem k119_51 : lkc 51 (kcode 119) = some (.getfield 226) := by decide +kernel
theorem k119_54 : lkc 54 (kcode 119) = some (.iload_n 1) := by decide +kernel
theorem k119_55 : lkc 55 (kcode 119) = some (.iadd) := by decide +kernel
theorem k119_56 : lkc 56 (kcode 119) = some (.putfield 226) := by decide +kernel
theorem k119_59 : lkc 59 (kcode 119) = some (.aload_n 0) := by decide +kernel
theorem k119_60 : lkc 60 (kcode 119) = some (.getfield 75) := by decide +kernel
theorem k119_63 : lkc 63 (kcode 119) = some (.getfield 226) := by decide +kernel
theorem k119_66 : lkc 66 (kcode 119) = some (.ireturn) := by decide +kernel
/-! forward: the acts, the class, on -/
theorem c_lamp {m : xM} {C k x h : Nat} {l : Nat → Nat} {z : Int32} (hr : rS m) (hk : m.1 89 1 = nI k) (hk9 : k ≤ 999) (hx : m.1 99 1 = nI x) (hx4 : x < 40) (hh : m.1 99 2 = nI h) (hh4 : h ≤ 40) (hC : m.1 3 0 = nI C) (hC8 : C ≤ 8) (hl : ∀ e, e < 8 → m.1 91 e = nI (l e) ∧ l e ≤ 3) : fC 116 [.ref 0, .int z] m (fun rv m' => (¬ (∃ e, e < C ∧ z = nI e ∧ 2 ≤ k ∧ l e < 3) ∧ rv = some (.int (-1)) ∧ m' = m) ∨ ∃ e, e < C ∧ z = nI e ∧ 2 ≤ k ∧ l e < 3 ∧ rv = some (.int (nI (l e + 1))) ∧ ∃ mk, kpO x h m mk ∧ m' = mI (mI mk 89 1 (nI (k - 2))) 91 e (nI (l e + 1))) := by
  refine fC_of (by decide) (fun d n P H => ?_)
  have neg : ∀ n, ¬ (∃ e, e < C ∧ z = nI e ∧ 2 ≤ k ∧ l e < 3) → xF 116 (xw d) P n 32 [(0, .ref 0), (1, .int z)] [] m → ∃ rv m', P rv m' ∧ ((¬ (∃ e, e < C ∧ z = nI e ∧ 2 ≤ k ∧ l e < 3) ∧ rv = some (.int (-1)) ∧ m' = m) ∨ ∃ e, e < C ∧ z = nI e ∧ 2 ≤ k ∧ l e < 3 ∧ rv = some (.int (nI (l e + 1))) ∧ ∃ mk, kpO x h m mk ∧ m' = mI (mI mk 89 1 (nI (k - 2))) 91 e (nI (l e + 1))) := by
    intro n hn H
    replace H := f_iconst H k116_32 (v := -1) (by decide)
    replace H := f_iret H k116_33
    exact ⟨_, _, H, Or.inl ⟨hn, rfl, rfl⟩⟩
  replace H := f_aload_n H k116_0 rfl
  replace H := f_iload_n H k116_1 rfl
  obtain ⟨rv, m3, ⟨ho, e3⟩, h9_2⟩ := f_inv H k116_2 (by decide +kernel) (as := [.int _]) (b := 0) (r := []) (by rfl) (c_isCornerN hr hC (by omega))
  replace H := h9_2
  rw [← e3] at H
  clear e3
  rcases ho with ⟨e, he, rfl, rfl⟩ | ⟨hno, rfl⟩
  · replace H := f_if_eq_f H k116_5 (by decide)
    obtain ⟨hl1, hl2⟩ := hl e (by omega)
    replace H := f_aload_n H k116_8 rfl
    replace H := f_gr H k116_9 (ci := 11) (f := 9) (x := 89) (by decide +kernel) (by decide) (hr 0 9 89 rfl)
    replace H := f_gi H k116_12 (ci := 6) (f := 1) (by decide +kernel) (by decide)
    replace H := f_iconst H k116_15 (v := 2) (by decide)
    rw [hk, show (2 : Int32) = nI 2 from rfl] at H
    have Hbr := f_icmp_lt H k116_16 (t := 32) (by decide)
    clear H
    rcases Hbr with ⟨c, H⟩ | ⟨c, H⟩
    · rw [nxlt (by omega) (by omega)] at c
      exact neg _ (fun ⟨_, _, _, q, _⟩ => by omega) H
    · rw [nxlt (by omega) (by omega)] at c
      replace H := f_aload_n H k116_19 rfl
      replace H := f_gr H k116_20 (ci := 11) (f := 9) (x := 89) (by decide +kernel) (by decide) (hr 0 9 89 rfl)
      replace H := f_gr H k116_23 (ci := 6) (f := 4) (x := 91) (by decide +kernel) (by decide) (hr 89 4 91 rfl)
      replace H := f_iload_n H k116_26 rfl
      have Hob := f_iald H k116_27 (c := 8) (by decide)
      clear H
      obtain ⟨hb27, H⟩ := Hob
      replace H := f_iconst H k116_28 (v := 3) (by decide)
      rw [nI_clamp (by omega), hl1, show (3 : Int32) = nI 3 from rfl] at H
      have Hbr := f_icmp_lt H k116_29 (t := 34) (by decide)
      clear H
      rcases Hbr with ⟨c2, H⟩ | ⟨c2, H⟩
      · rw [nxlt (by omega) (by omega)] at c2
        replace H := f_aload_n H k116_34 rfl
        replace H := f_gr H k116_35 (ci := 11) (f := 11) (x := 99) (by decide +kernel) (by decide) (hr 0 11 99 rfl)
        replace H := f_aload_n H k116_38 rfl
        replace H := f_gr H k116_39 (ci := 11) (f := 9) (x := 89) (by decide +kernel) (by decide) (hr 0 9 89 rfl)
        obtain ⟨rv, m4, ⟨rfl, hq⟩, h9_42⟩ := f_inv H k116_42 (by decide +kernel) (as := [.ref 89]) (b := 99) (r := []) (by rfl) (c_keep hr hx hx4 hh hh4)
        replace H := h9_42
        have hkp : kpO x h m m4 := hq
        have hr := kpO_r hkp hr
        have k4 : m4.1 89 1 = nI k := by rw [kpO_f hkp hx4 (by omega)]; exact hk
        have l4 : m4.1 91 e = nI (l e) := by rw [kpO_f hkp hx4 (by omega)]; exact hl1
        replace H := f_aload_n H k116_45 rfl
        replace H := f_gr H k116_46 (ci := 11) (f := 9) (x := 89) (by decide +kernel) (by decide) (hr 0 9 89 rfl)
        replace H := f_dup H k116_49
        replace H := f_gi H k116_50 (ci := 6) (f := 1) (by decide +kernel) (by decide)
        replace H := f_iconst H k116_53 (v := 2) (by decide)
        replace H := f_isub H k116_54
        replace H := f_put_i H k116_55 (ci := 6) (f := 1) (by decide +kernel) (by decide)
        replace H := f_aload_n H k116_58 rfl
        replace H := f_gr H k116_59 (ci := 11) (f := 9) (x := 89) (by decide +kernel) (by decide) (hr 0 9 89 rfl)
        replace H := f_gr H k116_62 (ci := 6) (f := 4) (x := 91) (by decide +kernel) (by decide) (hr 89 4 91 rfl)
        replace H := f_iload_n H k116_65 rfl
        replace H := f_dup2 H k116_66
        have Hob := f_iald H k116_67 (c := 8) (by decide)
        clear H
        obtain ⟨hb67, H⟩ := Hob
        replace H := f_iconst H k116_68 (v := 1) (by decide)
        replace H := f_iadd H k116_69
        have Hob := f_iast H k116_70 (c := 8) (by decide)
        clear H
        obtain ⟨hb70, H⟩ := Hob
        replace H := f_aload_n H k116_71 rfl
        replace H := f_gr H k116_72 (ci := 11) (f := 9) (x := 89) (by decide +kernel) (by decide) (hr 0 9 89 rfl)
        replace H := f_gr H k116_75 (ci := 6) (f := 4) (x := 91) (by decide +kernel) (by decide) (hr 89 4 91 rfl)
        replace H := f_iload_n H k116_78 rfl
        have Hob := f_iald H k116_79 (c := 8) (by decide)
        clear H
        obtain ⟨hb79, H⟩ := Hob
        rw [nI_clamp (by omega), mI_at, mI_ne (by omega), k4, l4, show (2 : Int32) = nI 2 from rfl, nI_sub (by omega) (by omega), nI_s] at H
        replace H := f_iret H k116_80
        exact ⟨_, _, H, Or.inr ⟨e, he, rfl, by omega, c2, rfl, m4, hkp, rfl⟩⟩
      · rw [nxlt (by omega) (by omega)] at c2
        exact neg _ (fun ⟨e2, q0, q1, _, q⟩ => by
          rw [nI_inj (by omega) (by omega)] at q1
          subst q1
          omega) H
  · replace H := f_if_eq_t H k116_5 rfl (t := 32) (by decide)
    exact neg _ (fun ⟨e, q1, q2, _⟩ => hno e q1 q2) H
theorem c_preach {m : xM} {W k x h : Nat} {f : Nat → Nat} {z : Int32} (hr : rS m) (hk : m.1 89 1 = nI k) (hk9 : k ≤ 999) (hx : m.1 99 1 = nI x) (hx4 : x < 40) (hh : m.1 99 2 = nI h) (hh4 : h ≤ 40) (hW : m.1 3 2 = nI W) (hW4 : W ≤ 4) (hf : ∀ p, p < W → m.1 93 p = nI (f p) ∧ f p ≤ 9) : fC 118 [.ref 0, .int z] m (fun rv m' => (¬ (∃ p, p < W ∧ z = nI p ∧ 4 ≤ k ∧ f p < 9) ∧ rv = some (.int (-1)) ∧ m' = m) ∨ ∃ p, p < W ∧ z = nI p ∧ 4 ≤ k ∧ f p < 9 ∧ rv = some (.int (nI (f p + 1))) ∧ ∃ mk, kpO x h m mk ∧ m' = mI (mI mk 89 1 (nI (k - 4))) 93 p (nI (f p + 1))) := by
  refine fC_of (by decide) (fun d n P H => ?_)
  have neg : ∀ n, ¬ (∃ p, p < W ∧ z = nI p ∧ 4 ≤ k ∧ f p < 9) → xF 118 (xw d) P n 33 [(0, .ref 0), (1, .int z)] [] m → ∃ rv m', P rv m' ∧ ((¬ (∃ p, p < W ∧ z = nI p ∧ 4 ≤ k ∧ f p < 9) ∧ rv = some (.int (-1)) ∧ m' = m) ∨ ∃ p, p < W ∧ z = nI p ∧ 4 ≤ k ∧ f p < 9 ∧ rv = some (.int (nI (f p + 1))) ∧ ∃ mk, kpO x h m mk ∧ m' = mI (mI mk 89 1 (nI (k - 4))) 93 p (nI (f p + 1))) := by
    intro n hn H
    replace H := f_iconst H k118_33 (v := -1) (by decide)
    replace H := f_iret H k118_34
    exact ⟨_, _, H, Or.inl ⟨hn, rfl, rfl⟩⟩
  replace H := f_aload_n H k118_0 rfl
  replace H := f_iload_n H k118_1 rfl
  obtain ⟨rv, m3, ⟨ho, e3⟩, h9_2⟩ := f_inv H k118_2 (by decide +kernel) (as := [.int _]) (b := 0) (r := []) (by rfl) (c_isWalker hr hW (by omega))
  replace H := h9_2
  rw [← e3] at H
  clear e3
  rcases ho with ⟨e, he, rfl, rfl⟩ | ⟨hno, rfl⟩
  · replace H := f_if_eq_f H k118_5 (by decide)
    obtain ⟨hl1, hl2⟩ := hf e (by omega)
    replace H := f_aload_n H k118_8 rfl
    replace H := f_gr H k118_9 (ci := 11) (f := 9) (x := 89) (by decide +kernel) (by decide) (hr 0 9 89 rfl)
    replace H := f_gi H k118_12 (ci := 6) (f := 1) (by decide +kernel) (by decide)
    replace H := f_iconst H k118_15 (v := 4) (by decide)
    rw [hk, show (4 : Int32) = nI 4 from rfl] at H
    have Hbr := f_icmp_lt H k118_16 (t := 33) (by decide)
    clear H
    rcases Hbr with ⟨c, H⟩ | ⟨c, H⟩
    · rw [nxlt (by omega) (by omega)] at c
      exact neg _ (fun ⟨_, _, _, q, _⟩ => by omega) H
    · rw [nxlt (by omega) (by omega)] at c
      replace H := f_aload_n H k118_19 rfl
      replace H := f_gr H k118_20 (ci := 11) (f := 9) (x := 89) (by decide +kernel) (by decide) (hr 0 9 89 rfl)
      replace H := f_gr H k118_23 (ci := 6) (f := 6) (x := 93) (by decide +kernel) (by decide) (hr 89 6 93 rfl)
      replace H := f_iload_n H k118_26 rfl
      have Hob := f_iald H k118_27 (c := 4) (by decide)
      clear H
      obtain ⟨hb27, H⟩ := Hob
      replace H := f_bipush H k118_28 (v := 9) (by decide)
      rw [nI_clamp (by omega), hl1, show (9 : Int32) = nI 9 from rfl] at H
      have Hbr := f_icmp_lt H k118_30 (t := 35) (by decide)
      clear H
      rcases Hbr with ⟨c2, H⟩ | ⟨c2, H⟩
      · rw [nxlt (by omega) (by omega)] at c2
        replace H := f_aload_n H k118_35 rfl
        replace H := f_gr H k118_36 (ci := 11) (f := 11) (x := 99) (by decide +kernel) (by decide) (hr 0 11 99 rfl)
        replace H := f_aload_n H k118_39 rfl
        replace H := f_gr H k118_40 (ci := 11) (f := 9) (x := 89) (by decide +kernel) (by decide) (hr 0 9 89 rfl)
        obtain ⟨rv, m4, ⟨rfl, hq⟩, h9_43⟩ := f_inv H k118_43 (by decide +kernel) (as := [.ref 89]) (b := 99) (r := []) (by rfl) (c_keep hr hx hx4 hh hh4)
        replace H := h9_43
        have hkp : kpO x h m m4 := hq
        have hr := kpO_r hkp hr
        have k4 : m4.1 89 1 = nI k := by rw [kpO_f hkp hx4 (by omega)]; exact hk
        have l4 : m4.1 93 e = nI (f e) := by rw [kpO_f hkp hx4 (by omega)]; exact hl1
        replace H := f_aload_n H k118_46 rfl
        replace H := f_gr H k118_47 (ci := 11) (f := 9) (x := 89) (by decide +kernel) (by decide) (hr 0 9 89 rfl)
        replace H := f_dup H k118_50
        replace H := f_gi H k118_51 (ci := 6) (f := 1) (by decide +kernel) (by decide)
        replace H := f_iconst H k118_54 (v := 4) (by decide)
        replace H := f_isub H k118_55
        replace H := f_put_i H k118_56 (ci := 6) (f := 1) (by decide +kernel) (by decide)
        replace H := f_aload_n H k118_59 rfl
        replace H := f_gr H k118_60 (ci := 11) (f := 9) (x := 89) (by decide +kernel) (by decide) (hr 0 9 89 rfl)
        replace H := f_gr H k118_63 (ci := 6) (f := 6) (x := 93) (by decide +kernel) (by decide) (hr 89 6 93 rfl)
        replace H := f_iload_n H k118_66 rfl
        replace H := f_dup2 H k118_67
        have Hob := f_iald H k118_68 (c := 4) (by decide)
        clear H
        obtain ⟨hb68, H⟩ := Hob
        replace H := f_iconst H k118_69 (v := 1) (by decide)
        replace H := f_iadd H k118_70
        have Hob := f_iast H k118_71 (c := 4) (by decide)
        clear H
        obtain ⟨hb71, H⟩ := Hob
        replace H := f_aload_n H k118_72 rfl
        replace H := f_gr H k118_73 (ci := 11) (f := 9) (x := 89) (by decide +kernel) (by decide) (hr 0 9 89 rfl)
        replace H := f_gr H k118_76 (ci := 6) (f := 6) (x := 93) (by decide +kernel) (by decide) (hr 89 6 93 rfl)
        replace H := f_iload_n H k118_79 rfl
        have Hob := f_iald H k118_80 (c := 4) (by decide)
        clear H
        obtain ⟨hb80, H⟩ := Hob
        rw [nI_clamp (by omega), mI_at, mI_ne (by omega), k4, l4, show (4 : Int32) = nI 4 from rfl, nI_sub (by omega) (by omega), nI_s] at H
        replace H := f_iret H k118_81
        exact ⟨_, _, H, Or.inr ⟨e, he, rfl, by omega, c2, rfl, m4, hkp, rfl⟩⟩
      · rw [nxlt (by omega) (by omega)] at c2
        exact neg _ (fun ⟨e2, q0, q1, _, q⟩ => by
          rw [nI_inj (by omega) (by omega)] at q1
          subst q1
          omega) H
  · replace H := f_if_eq_t H k118_5 rfl (t := 33) (by decide)
    exact neg _ (fun ⟨e, q1, q2, _⟩ => hno e q1 q2) H
theorem c_moves {m : xM} {W C k x h : Nat} {hm : Nat → Nat} {z y : Int32} (hr : rS m) (hk : m.1 89 1 = nI k) (hk9 : k ≤ 999) (hx : m.1 99 1 = nI x) (hx4 : x < 40) (hh : m.1 99 2 = nI h) (hh4 : h ≤ 40) (hW : m.1 3 2 = nI W) (hW4 : W ≤ 4) (hC : m.1 3 0 = nI C) (hC8 : C ≤ 8) (hH : ∀ p, p < W → m.1 92 p = nI (hm p) ∧ hm p < C) : fC 117 [.ref 0, .int z, .int y] m (fun rv m' => (¬ (∃ p e, p < W ∧ e < C ∧ z = nI p ∧ y = nI e ∧ 1 ≤ k ∧ hm p ≠ e) ∧ rv = some (.int (-1)) ∧ m' = m) ∨ ∃ p e, p < W ∧ e < C ∧ z = nI p ∧ y = nI e ∧ 1 ≤ k ∧ hm p ≠ e ∧ rv = some (.int (nI (hm p))) ∧ ∃ mk, kpO x h m mk ∧ m' = mI (mI mk 89 1 (nI (k - 1))) 92 p (nI e)) := by
  refine fC_of (by decide) (fun d n P H => ?_)
  have neg : ∀ n, ¬ (∃ p e, p < W ∧ e < C ∧ z = nI p ∧ y = nI e ∧ 1 ≤ k ∧ hm p ≠ e) → xF 117 (xw d) P n 40 [(0, .ref 0), (1, .int z), (2, .int y)] [] m → ∃ rv m', P rv m' ∧ ((¬ (∃ p e, p < W ∧ e < C ∧ z = nI p ∧ y = nI e ∧ 1 ≤ k ∧ hm p ≠ e) ∧ rv = some (.int (-1)) ∧ m' = m) ∨ ∃ p e, p < W ∧ e < C ∧ z = nI p ∧ y = nI e ∧ 1 ≤ k ∧ hm p ≠ e ∧ rv = some (.int (nI (hm p))) ∧ ∃ mk, kpO x h m mk ∧ m' = mI (mI mk 89 1 (nI (k - 1))) 92 p (nI e)) := by
    intro n hn H
    replace H := f_iconst H k117_40 (v := -1) (by decide)
    replace H := f_iret H k117_41
    exact ⟨_, _, H, Or.inl ⟨hn, rfl, rfl⟩⟩
  replace H := f_aload_n H k117_0 rfl
  replace H := f_iload_n H k117_1 rfl
  obtain ⟨rv, m3, ⟨ho, e3⟩, h9_2⟩ := f_inv H k117_2 (by decide +kernel) (as := [.int _]) (b := 0) (r := []) (by rfl) (c_isWalker hr hW (by omega))
  replace H := h9_2
  rw [← e3] at H
  clear e3
  rcases ho with ⟨p, hp, rfl, rfl⟩ | ⟨hno, rfl⟩
  · replace H := f_if_eq_f H k117_5 (by decide)
    obtain ⟨hl1, hl2⟩ := hH p (by omega)
    replace H := f_aload_n H k117_8 rfl
    replace H := f_iload_n H k117_9 rfl
    obtain ⟨rv, m3, ⟨ho, e3⟩, h9_10⟩ := f_inv H k117_10 (by decide +kernel) (as := [.int _]) (b := 0) (r := []) (by rfl) (c_isCornerN hr hC (by omega))
    replace H := h9_10
    rw [← e3] at H
    clear e3
    rcases ho with ⟨e, he, rfl, rfl⟩ | ⟨hno, rfl⟩
    · replace H := f_if_eq_f H k117_13 (by decide)
      replace H := f_aload_n H k117_16 rfl
      replace H := f_gr H k117_17 (ci := 11) (f := 9) (x := 89) (by decide +kernel) (by decide) (hr 0 9 89 rfl)
      replace H := f_gi H k117_20 (ci := 6) (f := 1) (by decide +kernel) (by decide)
      replace H := f_iconst H k117_23 (v := 1) (by decide)
      rw [hk, show (1 : Int32) = nI 1 from rfl] at H
      have Hbr := f_icmp_lt H k117_24 (t := 40) (by decide)
      clear H
      rcases Hbr with ⟨c, H⟩ | ⟨c, H⟩
      · rw [nxlt (by omega) (by omega)] at c
        exact neg _ (fun ⟨_, _, _, _, _, _, q, _⟩ => by omega) H
      · rw [nxlt (by omega) (by omega)] at c
        replace H := f_aload_n H k117_27 rfl
        replace H := f_gr H k117_28 (ci := 11) (f := 9) (x := 89) (by decide +kernel) (by decide) (hr 0 9 89 rfl)
        replace H := f_gr H k117_31 (ci := 6) (f := 5) (x := 92) (by decide +kernel) (by decide) (hr 89 5 92 rfl)
        replace H := f_iload_n H k117_34 rfl
        have Hob := f_iald H k117_35 (c := 4) (by decide)
        clear H
        obtain ⟨hb35, H⟩ := Hob
        replace H := f_iload_n H k117_36 rfl
        rw [nI_clamp (by omega), hl1] at H
        have Hbr := f_icmp_ne H k117_37 (t := 42) (by decide)
        clear H
        rcases Hbr with ⟨c2, H⟩ | ⟨c2, H⟩
        · rw [nI_inj (by omega) (by omega)] at c2
          replace H := f_aload_n H k117_42 rfl
          replace H := f_gr H k117_43 (ci := 11) (f := 11) (x := 99) (by decide +kernel) (by decide) (hr 0 11 99 rfl)
          replace H := f_aload_n H k117_46 rfl
          replace H := f_gr H k117_47 (ci := 11) (f := 9) (x := 89) (by decide +kernel) (by decide) (hr 0 9 89 rfl)
          obtain ⟨rv, m4, ⟨rfl, hq⟩, h9_50⟩ := f_inv H k117_50 (by decide +kernel) (as := [.ref 89]) (b := 99) (r := []) (by rfl) (c_keep hr hx hx4 hh hh4)
          replace H := h9_50
          have hkp : kpO x h m m4 := hq
          have hr := kpO_r hkp hr
          have k4 : m4.1 89 1 = nI k := by rw [kpO_f hkp hx4 (by omega)]; exact hk
          have l4 : m4.1 92 p = nI (hm p) := by rw [kpO_f hkp hx4 (by omega)]; exact hl1
          replace H := f_aload_n H k117_53 rfl
          replace H := f_gr H k117_54 (ci := 11) (f := 9) (x := 89) (by decide +kernel) (by decide) (hr 0 9 89 rfl)
          replace H := f_dup H k117_57
          replace H := f_gi H k117_58 (ci := 6) (f := 1) (by decide +kernel) (by decide)
          replace H := f_iconst H k117_61 (v := 1) (by decide)
          replace H := f_isub H k117_62
          replace H := f_put_i H k117_63 (ci := 6) (f := 1) (by decide +kernel) (by decide)
          replace H := f_aload_n H k117_66 rfl
          replace H := f_gr H k117_67 (ci := 11) (f := 9) (x := 89) (by decide +kernel) (by decide) (hr 0 9 89 rfl)
          replace H := f_gr H k117_70 (ci := 6) (f := 5) (x := 92) (by decide +kernel) (by decide) (hr 89 5 92 rfl)
          replace H := f_iload_n H k117_73 rfl
          have Hob := f_iald H k117_74 (c := 4) (by decide)
          clear H
          obtain ⟨hb74, H⟩ := Hob
          rw [nI_clamp (by omega), mI_ne (by omega), k4, l4, show (1 : Int32) = nI 1 from rfl, nI_sub (by omega) (by omega)] at H
          replace H := f_istore_n H k117_75 (l2 := [(3, .int (nI (hm p))), (0, .ref 0), (1, .int (nI p)), (2, .int (nI e))]) rfl
          replace H := f_aload_n H k117_76 rfl
          replace H := f_gr H k117_77 (ci := 11) (f := 9) (x := 89) (by decide +kernel) (by decide) (hr 0 9 89 rfl)
          replace H := f_gr H k117_80 (ci := 6) (f := 5) (x := 92) (by decide +kernel) (by decide) (hr 89 5 92 rfl)
          replace H := f_iload_n H k117_83 rfl
          replace H := f_iload_n H k117_84 rfl
          have Hob := f_iast H k117_85 (c := 4) (by decide)
          clear H
          obtain ⟨hb85, H⟩ := Hob
          replace H := f_iload_n H k117_86 rfl
          rw [nI_clamp (by omega)] at H
          replace H := f_iret H k117_87
          exact ⟨_, _, H, Or.inr ⟨p, e, hp, he, rfl, rfl, by omega, c2, rfl, m4, hkp, rfl⟩⟩
        · rw [nI_inj (by omega) (by omega)] at c2
          exact neg _ (fun ⟨p2, e2, q0, q9, q1, q2, _, q⟩ => by
            rw [nI_inj (by omega) (by omega)] at q1 q2
            subst q1 q2
            exact q c2) H
    · replace H := f_if_eq_t H k117_13 rfl (t := 40) (by decide)
      exact neg _ (fun ⟨p, e, q1, q2, q3, q4, _⟩ => hno e q2 q4) H
  · replace H := f_if_eq_t H k117_5 rfl (t := 40) (by decide)
    exact neg _ (fun ⟨p, e, q1, q2, q3, _⟩ => hno p q1 q3) H
theorem c_give {m : xM} {C k x h : Nat} {z : Int32} (hr : rS m) (hk : m.1 89 1 = nI k) (hk9 : k ≤ 999) (hx : m.1 99 1 = nI x) (hx4 : x < 40) (hh : m.1 99 2 = nI h) (hh4 : h ≤ 40) (hC : m.1 3 0 = nI C) (hC8 : C ≤ 8) : fC 119 [.ref 0, .int z] m (fun rv m' => (¬ (0 < C ∧ ∃ n, 1 ≤ n ∧ n ≤ 50 ∧ z = nI n ∧ k + n ≤ 999) ∧ rv = some (.int (-1)) ∧ m' = m) ∨ (0 < C ∧ ∃ n, 1 ≤ n ∧ n ≤ 50 ∧ z = nI n ∧ k + n ≤ 999 ∧ rv = some (.int (nI (k + n))) ∧ ∃ mk, kpO x h m mk ∧ m' = mI mk 89 1 (nI (k + n)))) := by
  refine fC_of (by decide) (fun d n P H => ?_)
  have neg : ∀ n, ¬ (0 < C ∧ ∃ n, 1 ≤ n ∧ n ≤ 50 ∧ z = nI n ∧ k + n ≤ 999) → xF 119 (xw d) P n 33 [(0, .ref 0), (1, .int z)] [] m → ∃ rv m', P rv m' ∧ ((¬ (0 < C ∧ ∃ n, 1 ≤ n ∧ n ≤ 50 ∧ z = nI n ∧ k + n ≤ 999) ∧ rv = some (.int (-1)) ∧ m' = m) ∨ (0 < C ∧ ∃ n, 1 ≤ n ∧ n ≤ 50 ∧ z = nI n ∧ k + n ≤ 999 ∧ rv = some (.int (nI (k + n))) ∧ ∃ mk, kpO x h m mk ∧ m' = mI mk 89 1 (nI (k + n)))) := by
    intro n hn H
    replace H := f_iconst H k119_33 (v := -1) (by decide)
    replace H := f_iret H k119_34
    exact ⟨_, _, H, Or.inl ⟨hn, rfl, rfl⟩⟩
  replace H := f_aload_n H k119_0 rfl
  obtain ⟨rv, m3, ⟨ho, e3⟩, h9_1⟩ := f_inv H k119_1 (by decide +kernel) (as := []) (b := 0) (r := []) (by rfl) (c_hasTown hr hC (by omega))
  replace H := h9_1
  rw [← e3] at H
  clear e3
  rcases ho with ⟨h0, rfl⟩ | ⟨h0, rfl⟩
  · replace H := f_if_eq_f H k119_4 (by decide)
    replace H := f_iload_n H k119_7 rfl
    replace H := f_iconst H k119_8 (v := 1) (by decide)
    have Hbr := f_icmp_lt H k119_9 (t := 33) (by decide)
    clear H
    rcases Hbr with ⟨c, H⟩ | ⟨c, H⟩
    · rw [Int32.lt_iff_toInt_lt, show (1 : Int32).toInt = 1 by decide] at c
      exact neg _ (fun ⟨_, n, q1, q2, q3, _⟩ => by rw [q3, nI_toInt (by omega)] at c; omega) H
    · rw [Int32.lt_iff_toInt_lt, show (1 : Int32).toInt = 1 by decide] at c
      replace H := f_iload_n H k119_12 rfl
      replace H := f_bipush H k119_13 (v := 50) (by decide)
      have Hbr := f_icmp_gt H k119_15 (t := 33) (by decide)
      clear H
      rcases Hbr with ⟨c2, H⟩ | ⟨c2, H⟩
      · rw [Int32.lt_iff_toInt_lt, show (50 : Int32).toInt = 50 by decide] at c2
        exact neg _ (fun ⟨_, n, q1, q2, q3, _⟩ => by rw [q3, nI_toInt (by omega)] at c2; omega) H
      · rw [Int32.lt_iff_toInt_lt, show (50 : Int32).toInt = 50 by decide] at c2
        obtain ⟨g, hg, rfl⟩ := i_rng (x := z) (L := 50) (by omega) (by omega) (by decide)
        rw [nI_toInt (by omega)] at c c2
        replace H := f_aload_n H k119_18 rfl
        replace H := f_gr H k119_19 (ci := 11) (f := 9) (x := 89) (by decide +kernel) (by decide) (hr 0 9 89 rfl)
        replace H := f_gi H k119_22 (ci := 6) (f := 1) (by decide +kernel) (by decide)
        replace H := f_iload_n H k119_25 rfl
        replace H := f_iadd H k119_26
        replace H := f_sipush H k119_27 (v := 999) (by decide)
        rw [hk, r_ad, show (999 : Int32) = nI 999 from rfl] at H
        have Hbr := f_icmp_le H k119_30 (t := 35) (by decide)
        clear H
        rcases Hbr with ⟨c3, H⟩ | ⟨c3, H⟩
        · rw [nxle (by omega) (by omega)] at c3
          replace H := f_aload_n H k119_35 rfl
          replace H := f_gr H k119_36 (ci := 11) (f := 11) (x := 99) (by decide +kernel) (by decide) (hr 0 11 99 rfl)
          replace H := f_aload_n H k119_39 rfl
          replace H := f_gr H k119_40 (ci := 11) (f := 9) (x := 89) (by decide +kernel) (by decide) (hr 0 9 89 rfl)
          obtain ⟨rv, m4, ⟨rfl, hq⟩, h9_43⟩ := f_inv H k119_43 (by decide +kernel) (as := [.ref 89]) (b := 99) (r := []) (by rfl) (c_keep hr hx hx4 hh hh4)
          replace H := h9_43
          have hkp : kpO x h m m4 := hq
          have hr := kpO_r hkp hr
          have k4 : m4.1 89 1 = nI k := by rw [kpO_f hkp hx4 (by omega)]; exact hk
          replace H := f_aload_n H k119_46 rfl
          replace H := f_gr H k119_47 (ci := 11) (f := 9) (x := 89) (by decide +kernel) (by decide) (hr 0 9 89 rfl)
          replace H := f_dup H k119_50
          replace H := f_gi H k119_51 (ci := 6) (f := 1) (by decide +kernel) (by decide)
          replace H := f_iload_n H k119_54 rfl
          replace H := f_iadd H k119_55
          replace H := f_put_i H k119_56 (ci := 6) (f := 1) (by decide +kernel) (by decide)
          replace H := f_aload_n H k119_59 rfl
          replace H := f_gr H k119_60 (ci := 11) (f := 9) (x := 89) (by decide +kernel) (by decide) (hr 0 9 89 rfl)
          replace H := f_gi H k119_63 (ci := 6) (f := 1) (by decide +kernel) (by decide)
          rw [mI_at, k4, r_ad] at H
          replace H := f_iret H k119_66
          exact ⟨_, _, H, Or.inr ⟨h0, g, by omega, by omega, rfl, c3, rfl, m4, hkp, rfl⟩⟩
        · rw [nxle (by omega) (by omega)] at c3
          exact neg _ (fun ⟨_, n, q1, q2, q3, q4⟩ => by
            rw [nI_inj (by omega) (by omega)] at q3
            omega) H
  · replace H := f_if_eq_t H k119_4 rfl (t := 33) (by decide)
    exact neg _ (fun ⟨q, _⟩ => by omega) H
