theorem k162_0 : lkc 0 (kcode 162) = some (.aload_n 0) := by decide +kernel
theorem k162_1 : lkc 1 (kcode 162) = some (.getfield 113) := by decide +kernel
theorem k162_4 : lkc 4 (kcode 162) = some (.aload_n 0) := by decide +kernel
theorem k162_5 : lkc 5 (kcode 162) = some (.getfield 116) := by decide +kernel
theorem k162_8 : lkc 8 (kcode 162) = some (.if_icmp .ge 35) := by decide +kernel
theorem k162_11 : lkc 11 (kcode 162) = some (.aload_n 0) := by decide +kernel
theorem k162_12 : lkc 12 (kcode 162) = some (.getfield 23) := by decide +kernel
theorem k162_15 : lkc 15 (kcode 162) = some (.aload_n 0) := by decide +kernel
theorem k162_16 : lkc 16 (kcode 162) = some (.getfield 119) := by decide +kernel
theorem k162_19 : lkc 19 (kcode 162) = some (.aload_n 0) := by decide +kernel
theorem k162_20 : lkc 20 (kcode 162) = some (.getfield 113) := by decide +kernel
theorem k162_23 : lkc 23 (kcode 162) = some (.iadd) := by decide +kernel
theorem k162_24 : lkc 24 (kcode 162) = some (.baload) := by decide +kernel
theorem k162_25 : lkc 25 (kcode 162) = some (.bipush 32) := by decide +kernel
theorem k162_27 : lkc 27 (kcode 162) = some (.if_icmp .ne 16) := by decide +kernel
theorem k162_30 : lkc 30 (kcode 162) = some (.aload_n 0) := by decide +kernel
theorem k162_31 : lkc 31 (kcode 162) = some (.dup) := by decide +kernel
theorem k162_32 : lkc 32 (kcode 162) = some (.getfield 113) := by decide +kernel
theorem k162_35 : lkc 35 (kcode 162) = some (.iconst 1) := by decide +kernel
theorem k162_36 : lkc 36 (kcode 162) = some (.iadd) := by decide +kernel
theorem k162_37 : lkc 37 (kcode 162) = some (.putfield 113) := by decide +kernel
theorem k162_40 : lkc 40 (kcode 162) = some (.goto (-40)) := by decide +kernel
theorem k162_43 : lkc 43 (kcode 162) = some (.aload_n 0) := by decide +kernel
theorem k162_44 : lkc 44 (kcode 162) = some (.getfield 113) := by decide +kernel
theorem k162_47 : lkc 47 (kcode 162) = some (.aload_n 0) := by decide +kernel
theorem k162_48 : lkc 48 (kcode 162) = some (.getfield 116) := by decide +kernel
theorem k162_51 : lkc 51 (kcode 162) = some (.if_icmp .ge 24) := by decide +kernel
theorem k162_54 : lkc 54 (kcode 162) = some (.aload_n 0) := by decide +kernel
theorem k162_55 : lkc 55 (kcode 162) = some (.getfield 23) := by decide +kernel
theorem k162_58 : lkc 58 (kcode 162) = some (.aload_n 0) := by decide +kernel
theorem k162_59 : lkc 59 (kcode 162) = some (.getfield 119) := by decide +kernel
theorem k162_62 : lkc 62 (kcode 162) = some (.aload_n 0) := by decide +kernel
theorem k162_63 : lkc 63 (kcode 162) = some (.getfield 113) := by decide +kernel
theorem k162_66 : lkc 66 (kcode 162) = some (.iadd) := by decide +kernel
theorem k162_67 : lkc 67 (kcode 162) = some (.baload) := by decide +kernel
theorem k162_68 : lkc 68 (kcode 162) = some (.sipush 255) := by decide +kernel
theorem k162_71 : lkc 71 (kcode 162) = some (.iand) := by decide +kernel
theorem k162_72 : lkc 72 (kcode 162) = some (.goto 4) := by decide +kernel
theorem k162_75 : lkc 75 (kcode 162) = some (.iconst (-1)) := by decide +kernel
theorem k162_76 : lkc 76 (kcode 162) = some (.ireturn) := by decide +kernel
theorem k163_0 : lkc 0 (kcode 163) = some (.aload_n 0) := by decide +kernel
theorem k163_1 : lkc 1 (kcode 163) = some (.getfield 122) := by decide +kernel
theorem k163_4 : lkc 4 (kcode 163) = some (.iconst (-1)) := by decide +kernel
theorem k163_5 : lkc 5 (kcode 163) = some (.if_icmp .ne 11) := by decide +kernel
theorem k163_8 : lkc 8 (kcode 163) = some (.aload_n 0) := by decide +kernel
theorem k163_9 : lkc 9 (kcode 163) = some (.aload_n 0) := by decide +kernel
theorem k163_10 : lkc 10 (kcode 163) = some (.getfield 113) := by decide +kernel
theorem k163_13 : lkc 13 (kcode 163) = some (.putfield 122) := by decide +kernel
theorem k163_16 : lkc 16 (kcode 163) = some (.iconst 0) := by decide +kernel
theorem k163_17 : lkc 17 (kcode 163) = some (.ireturn) := by decide +kernel
theorem k165_0 : lkc 0 (kcode 165) = some (.aload_n 0) := by decide +kernel
theorem k165_1 : lkc 1 (kcode 165) = some (.getfield 122) := by decide +kernel
theorem k165_4 : lkc 4 (kcode 165) = some (.iconst (-1)) := by decide +kernel
theorem k165_5 : lkc 5 (kcode 165) = some (.if_icmp .ne 11) := by decide +kernel
theorem k165_8 : lkc 8 (kcode 165) = some (.aload_n 0) := by decide +kernel
theorem k165_9 : lkc 9 (kcode 165) = some (.invokevirtual 132) := by decide +kernel
theorem k165_12 : lkc 12 (kcode 165) = some (.iload_n 1) := by decide +kernel
theorem k165_13 : lkc 13 (kcode 165) = some (.if_icmp .eq 8) := by decide +kernel
theorem k165_16 : lkc 16 (kcode 165) = some (.aload_n 0) := by decide +kernel
theorem k165_17 : lkc 17 (kcode 165) = some (.invokevirtual 128) := by decide +kernel
theorem k165_20 : lkc 20 (kcode 165) = some (.ireturn) := by decide +kernel
theorem k165_21 : lkc 21 (kcode 165) = some (.aload_n 0) := by decide +kernel
theorem k165_22 : lkc 22 (kcode 165) = some (.dup) := by decide +kernel
theorem k165_23 : lkc 23 (kcode 165) = some (.getfield 113) := by decide +kernel
theorem k165_26 : lkc 26 (kcode 165) = some (.iconst 1) := by decide +kernel
theorem k165_27 : lkc 27 (kcode 165) = some (.iadd) := by decide +kernel
theorem k165_28 : lkc 28 (kcode 165) = some (.putfield 113) := by decide +kernel
theorem k165_31 : lkc 31 (kcode 165) = some (.iconst 1) := by decide +kernel
theorem k165_32 : lkc 32 (kcode 165) = some (.ireturn) := by decide +kernel
theorem k166_0 : lkc 0 (kcode 166) = some (.aload_n 0) := by decide +kernel
theorem k166_1 : lkc 1 (kcode 166) = some (.getfield 113) := by decide +kernel
theorem k166_4 : lkc 4 (kcode 166) = some (.aload_n 0) := by decide +kernel
theorem k166_5 : lkc 5 (kcode 166) = some (.getfield 116) := by decide +kernel
theorem k166_8 : lkc 8 (kcode 166) = some (.if_icmp .ge 45) := by decide +kernel
theorem k166_11 : lkc 11 (kcode 166) = some (.aload_n 0) := by decide +kernel
theorem k166_12 : lkc 12 (kcode 166) = some (.getfield 23) := by decide +kernel
theorem k166_15 : lkc 15 (kcode 166) = some (.aload_n 0) := by decide +kernel
theorem k166_16 : lkc 16 (kcode 166) = some (.getfield 119) := by decide +kernel
theorem k166_19 : lkc 19 (kcode 166) = some (.aload_n 0) := by decide +kernel
theorem k166_20 : lkc 20 (kcode 166) = some (.getfield 113) := by decide +kernel
theorem k166_23 : lkc 23 (kcode 166) = some (.iadd) := by decide +kernel
theorem k166_24 : lkc 24 (kcode 166) = some (.baload) := by decide +kernel
theorem k166_25 : lkc 25 (kcode 166) = some (.bipush 48) := by decide +kernel
theorem k166_27 : lkc 27 (kcode 166) = some (.if_icmp .lt 26) := by decide +kernel
theorem k166_30 : lkc 30 (kcode 166) = some (.aload_n 0) := by decide +kernel
theorem k166_31 : lkc 31 (kcode 166) = some (.getfield 23) := by decide +kernel
theorem k166_34 : lkc 34 (kcode 166) = some (.aload_n 0) := by decide +kernel
theorem k166_35 : lkc 35 (kcode 166) = some (.getfield 119) := by decide +kernel
theorem k166_38 : lkc 38 (kcode 166) = some (.aload_n 0) := by decide +kernel
theorem k166_39 : lkc 39 (kcode 166) = some (.getfield 113) := by decide +kernel
theorem k166_42 : lkc 42 (kcode 166) = some (.iadd) := by decide +kernel
theorem k166_43 : lkc 43 (kcode 166) = some (.baload) := by decide +kernel
theorem k166_44 : lkc 44 (kcode 166) = some (.bipush 57) := by decide +kernel
theorem k166_46 : lkc 46 (kcode 166) = some (.if_icmp .gt 7) := by decide +kernel
theorem k166_49 : lkc 49 (kcode 166) = some (.iconst 1) := by decide +kernel
theorem k166_50 : lkc 50 (kcode 166) = some (.goto 4) := by decide +kernel
theorem k166_53 : lkc 53 (kcode 166) = some (.iconst 0) := by decide +kernel
theorem k166_54 : lkc 54 (kcode 166) = some (.ireturn) := by decide +kernel
/-! forward: the reference's reader of a law's text: look, fails, takes .. over the tape -/
theorem nI_s (a : Nat) : nI a + 1 = nI (a + 1) := r_ad a 1
def rS (m : xM) : Prop := ∀ a i b, tR a i = some b → m.2.2 a i = some b
theorem by_all {x : Int32} {P : Int32 → Prop} (h : ∀ k : Fin 256, P (Int32.ofInt ((k.val : Int) - 128))) (h1 : -128 ≤ x.toInt) (h2 : x.toInt ≤ 127) : P x := by
  have e : x = Int32.ofInt (((⟨(x.toInt + 128).toNat, by omega⟩ : Fin 256).val : Int) - 128) := by
    show x = Int32.ofInt (((x.toInt + 128).toNat : Int) - 128)
    rw [show (((x.toInt + 128).toNat : Int) - 128) = x.toInt by omega, Int32.ofInt_toInt]
  rw [e]
  exact h _
def byR (x : Int32) : Prop := -128 ≤ x.toInt ∧ x.toInt ≤ 127
set_option maxRecDepth 100000 in
theorem by_32 {x : Int32} (h : byR x) : x = 32 ↔ x &&& 255 = 32 := by_all (P := fun x => x = 32 ↔ x &&& 255 = 32) (by decide +kernel) h.1 h.2
set_option maxRecDepth 100000 in
theorem by_dg {x : Int32} (h : byR x) : ((48 : Int32) ≤ x ∧ x ≤ 57) ↔ isDg (x &&& 255) := by_all (P := fun x => ((48 : Int32) ≤ x ∧ x ≤ 57) ↔ isDg (x &&& 255)) (by decide +kernel) h.1 h.2
set_option maxRecDepth 100000 in
theorem by_dgv {x : Int32} (h : byR x) (hd : isDg (x &&& 255)) : x = x &&& 255 := by_all (P := fun x => isDg (x &&& 255) → x = x &&& 255) (by decide +kernel) h.1 h.2 hd
set_option maxRecDepth 100000 in
theorem by_nn {x : Int32} (h : byR x) : ¬ (x &&& 255) = -1 := by_all (P := fun x => ¬ (x &&& 255) = -1) (by decide +kernel) h.1 h.2
/-- the reference's reader stands at h of a text of N bytes (row b, its u there), nothing wrong yet, dp deep -/
def mS (m : xM) (N h dp : Nat) (u : Nat → Int32) : Prop := rS m ∧ m.2.2 314 5 = some 315 ∧ m.1 314 8 = 0 ∧ m.1 314 9 = nI N ∧ m.1 314 10 = nI h ∧ m.1 314 11 = -1 ∧ m.1 314 12 = nI dp ∧ m.1 315 = u ∧ (∀ i, byR (u i)) ∧ N ≤ 240 ∧ h ≤ N ∧ dp ≤ 6
def tt (u : Nat → Int32) : Nat → Int32 := fun i => u i &&& 255
theorem mS_h {m : xM} {N h dp h2 : Nat} {u : Nat → Int32} (hm : mS m N h dp u) (hh : h2 ≤ N) : mS (mI m 314 10 (nI h2)) N h2 dp u := by
  obtain ⟨e0, e1, e2, e3, e4, e5, e6, e7, e8, e9, e10, e11⟩ := hm
  exact ⟨e0, e1, by rw [mI_ne (by omega)]; exact e2, by rw [mI_ne (by omega)]; exact e3, mI_at, by rw [mI_ne (by omega)]; exact e5, by rw [mI_ne (by omega)]; exact e6, by rw [← e7]; exact funext fun j => mI_ne (by omega), e8, e9, hh, e11⟩
theorem mS_d {m : xM} {N h dp d2 : Nat} {u : Nat → Int32} (hm : mS m N h dp u) (hh : d2 ≤ 6) : mS (mI m 314 12 (nI d2)) N h d2 u := by
  obtain ⟨e0, e1, e2, e3, e4, e5, e6, e7, e8, e9, e10, e11⟩ := hm
  exact ⟨e0, e1, by rw [mI_ne (by omega)]; exact e2, by rw [mI_ne (by omega)]; exact e3, by rw [mI_ne (by omega)]; exact e4, by rw [mI_ne (by omega)]; exact e5, mI_at, by rw [← e7]; exact funext fun j => mI_ne (by omega), e8, e9, e10, hh⟩
theorem atv_t {N : Nat} {u : Nat → Int32} {h : Nat} (hh : h < N) : atv N (tt u) h = u h &&& 255 := by unfold atv tt; rw [if_pos hh]
theorem atv_e {N : Nat} {u : Nat → Int32} {h : Nat} (hh : ¬ h < N) : atv N (tt u) h = -1 := by unfold atv; rw [if_neg hh]
theorem c_mfails {m : xM} {h : Nat} (hw : m.1 314 11 = -1) (hh : m.1 314 10 = nI h) : fC 163 [.ref 314] m (fun rv m' => rv = some (.int 0) ∧ m' = mI m 314 11 (nI h)) := by
  refine fC_of (by decide) (fun d n P H => ?_)
  replace H := f_aload_n H k163_0 rfl
  replace H := f_gi H k163_1 (ci := 12) (f := 11) (by decide +kernel) (by decide)
  replace H := f_iconst H k163_4 (v := -1) (by decide)
  replace H := f_icmp_ne_f H k163_5 hw
  replace H := f_aload_n H k163_8 rfl
  replace H := f_aload_n H k163_9 rfl
  replace H := f_gi H k163_10 (ci := 12) (f := 10) (by decide +kernel) (by decide)
  replace H := f_put_i H k163_13 (ci := 12) (f := 11) (by decide +kernel) (by decide)
  replace H := f_iconst H k163_16 (v := 0) (by decide)
  rw [hh] at H
  replace H := f_iret H k163_17
  exact ⟨_, _, H, rfl, rfl⟩
theorem c_mfails2 {m : xM} (hw : m.1 314 11 ≠ -1) : fC 163 [.ref 314] m (fun rv m' => rv = some (.int 0) ∧ m' = m) := by
  refine fC_of (by decide) (fun d n P H => ?_)
  replace H := f_aload_n H k163_0 rfl
  replace H := f_gi H k163_1 (ci := 12) (f := 11) (by decide +kernel) (by decide)
  replace H := f_iconst H k163_4 (v := -1) (by decide)
  replace H := f_icmp_ne_t H k163_5 hw (t := 16) (by decide)
  replace H := f_iconst H k163_16 (v := 0) (by decide)
  replace H := f_iret H k163_17
  exact ⟨_, _, H, rfl, rfl⟩
theorem c_look {m : xM} {N h dp : Nat} {u : Nat → Int32} (hm : mS m N h dp u) : fC 162 [.ref 314] m (fun rv m' => rv = some (.int (atv N (tt u) (sk N (tt u) h))) ∧ m' = mI m 314 10 (nI (sk N (tt u) h))) := by
  refine fC_of (by decide) (fun d n P H => ?_)
  have key : ∀ n h, h ≤ N → xF 162 (xw d) P (n + 1) 0 [(0, .ref 314)] [] (mI m 314 10 (nI h)) → ∃ rv m', P rv m' ∧ rv = some (.int (atv N (tt u) (sk N (tt u) h))) ∧ m' = mI m 314 10 (nI (sk N (tt u) h)) := by
    intro n
    induction n with
    | zero => exact fun h hh H => (xF_0 (f1_aload_n H k162_0 rfl)).elim
    | succ n ih =>
      intro h hh H
      have hm' := mS_h hm hh
      obtain ⟨hr, htx, e2, e3, e4, e5, e6, e7, e8, e9, -, e11⟩ := id hm'
      have fin : ¬ (h < N ∧ tt u h = 32) → xF 162 (xw d) P (n + 1) 43 [(0, .ref 314)] [] (mI m 314 10 (nI h)) → ∃ rv m', P rv m' ∧ rv = some (.int (atv N (tt u) (sk N (tt u) h))) ∧ m' = mI m 314 10 (nI (sk N (tt u) h)) := by
        intro hc H
        rw [sk_no hc]
        replace H := f_aload_n H k162_43 rfl
        replace H := f_gi H k162_44 (ci := 12) (f := 10) (by decide +kernel) (by decide)
        replace H := f_aload_n H k162_47 rfl
        replace H := f_gi H k162_48 (ci := 12) (f := 9) (by decide +kernel) (by decide)
        rw [e4, e3] at H
        have Hbr := f_icmp_ge H k162_51 (t := 75) (by decide)
        clear H
        rcases Hbr with ⟨c, H⟩ | ⟨c, H⟩
        · rw [nI_lt2 (by omega) (by omega)] at c
          replace H := f_iconst H k162_75 (v := -1) (by decide)
          replace H := f_iret H k162_76
          exact ⟨_, _, H, by rw [atv_e (by omega)], rfl⟩
        · rw [nI_lt2 (by omega) (by omega)] at c
          replace H := f_aload_n H k162_54 rfl
          replace H := f_gr H k162_55 (ci := 12) (f := 5) (x := 315) (by decide +kernel) (by decide) htx
          replace H := f_aload_n H k162_58 rfl
          replace H := f_gi H k162_59 (ci := 12) (f := 8) (by decide +kernel) (by decide)
          replace H := f_aload_n H k162_62 rfl
          replace H := f_gi H k162_63 (ci := 12) (f := 10) (by decide +kernel) (by decide)
          replace H := f_iadd H k162_66
          have Hob := f_bald H k162_67 (c := 240) (by decide)
          clear H
          obtain ⟨hb67, H⟩ := Hob
          replace H := f_sipush H k162_68 (v := 255) (by decide)
          replace H := f_iand H k162_71
          replace H := f_goto H k162_72 (t := 76) (by decide)
          replace H := f_iret H k162_76
          rw [e4, e2, show (0 : Int32) + nI h = nI h from (Int32.zero_add _), nI_clamp (by omega), e7] at H
          exact ⟨_, _, H, by rw [atv_t (by omega)], rfl⟩
      replace H := f1_aload_n H k162_0 rfl
      replace H := f_gi H k162_1 (ci := 12) (f := 10) (by decide +kernel) (by decide)
      replace H := f_aload_n H k162_4 rfl
      replace H := f_gi H k162_5 (ci := 12) (f := 9) (by decide +kernel) (by decide)
      rw [e4, e3] at H
      have Hbr := f_icmp_ge H k162_8 (t := 43) (by decide)
      clear H
      rcases Hbr with ⟨c, H⟩ | ⟨c, H⟩
      · rw [nI_lt2 (by omega) (by omega)] at c
        exact fin (fun z => by omega) H
      · rw [nI_lt2 (by omega) (by omega)] at c
        replace H := f_aload_n H k162_11 rfl
        replace H := f_gr H k162_12 (ci := 12) (f := 5) (x := 315) (by decide +kernel) (by decide) htx
        replace H := f_aload_n H k162_15 rfl
        replace H := f_gi H k162_16 (ci := 12) (f := 8) (by decide +kernel) (by decide)
        replace H := f_aload_n H k162_19 rfl
        replace H := f_gi H k162_20 (ci := 12) (f := 10) (by decide +kernel) (by decide)
        replace H := f_iadd H k162_23
        have Hob := f_bald H k162_24 (c := 240) (by decide)
        clear H
        obtain ⟨hb24, H⟩ := Hob
        replace H := f_bipush H k162_25 (v := 32) (by decide)
        rw [e4, e2, show (0 : Int32) + nI h = nI h from (Int32.zero_add _), nI_clamp (by omega), e7] at H
        have Hbr := f_icmp_ne H k162_27 (t := 43) (by decide)
        clear H
        rcases Hbr with ⟨c, H⟩ | ⟨c, H⟩
        · exact fin (fun z => c ((by_32 (e8 h)).mpr z.2)) H
        · replace H := f_aload_n H k162_30 rfl
          replace H := f_dup H k162_31
          replace H := f_gi H k162_32 (ci := 12) (f := 10) (by decide +kernel) (by decide)
          replace H := f_iconst H k162_35 (v := 1) (by decide)
          replace H := f_iadd H k162_36
          replace H := f_put_i H k162_37 (ci := 12) (f := 10) (by decide +kernel) (by decide)
          replace H := f_goto H k162_40 (t := 0) (by decide)
          rw [e4, nI_s, mI_two] at H
          rw [sk_go (by omega) ((by_32 (e8 h)).mp c)]
          exact ih (h + 1) (by omega) H
  have e : m = mI m 314 10 (nI h) := (mI_self hm.2.2.2.2.1).symm
  rw [e] at H
  exact key n h hm.2.2.2.2.2.2.2.2.2.2.1 (f_up H (Nat.le_succ _))
theorem c_mtakes {m : xM} {N h dp : Nat} {u : Nat → Int32} {s : Int32} (hm : mS m N h dp u) (hs : s ≠ -1) : fC 165 [.ref 314, .int s] m (fun rv m' => (atv N (tt u) (sk N (tt u) h) = s ∧ rv = some (.int 1) ∧ m' = mI m 314 10 (nI (sk N (tt u) h + 1)) ∧ sk N (tt u) h < N) ∨ (atv N (tt u) (sk N (tt u) h) ≠ s ∧ rv = some (.int 0) ∧ m'.1 314 11 = nI (sk N (tt u) h))) := by
  refine fC_of (by decide) (fun d n P H => ?_)
  have hm' := mS_h hm (sk_le (t := tt u) hm.2.2.2.2.2.2.2.2.2.2.1)
  obtain ⟨hr, htx, e2, e3, e4, e5, e6, e7, e8, e9, e10, e11⟩ := id hm'
  replace H := f_aload_n H k165_0 rfl
  replace H := f_gi H k165_1 (ci := 12) (f := 11) (by decide +kernel) (by decide)
  replace H := f_iconst H k165_4 (v := -1) (by decide)
  replace H := f_icmp_ne_f H k165_5 hm.2.2.2.2.2.1
  replace H := f_aload_n H k165_8 rfl
  obtain ⟨rv, m', ⟨rfl, rfl⟩, h9_9⟩ := f_inv H k165_9 (by decide +kernel) (as := []) (b := 314) (r := []) (by rfl) (c_look hm)
  replace H := h9_9
  replace H := f_iload_n H k165_12 rfl
  have Hbr := f_icmp_eq H k165_13 (t := 21) (by decide)
  clear H
  rcases Hbr with ⟨c, H⟩ | ⟨c, H⟩
  · replace H := f_aload_n H k165_21 rfl
    replace H := f_dup H k165_22
    replace H := f_gi H k165_23 (ci := 12) (f := 10) (by decide +kernel) (by decide)
    replace H := f_iconst H k165_26 (v := 1) (by decide)
    replace H := f_iadd H k165_27
    replace H := f_put_i H k165_28 (ci := 12) (f := 10) (by decide +kernel) (by decide)
    replace H := f_iconst H k165_31 (v := 1) (by decide)
    rw [e4, nI_s, mI_two] at H
    replace H := f_iret H k165_32
    refine ⟨_, _, H, Or.inl ⟨c, rfl, rfl, ?_⟩⟩
    by_cases h2 : sk N (tt u) h < N
    · exact h2
    · rw [atv_e h2] at c
      exact absurd c.symm hs
  · replace H := f_aload_n H k165_16 rfl
    obtain ⟨rv, m', ⟨rfl, rfl⟩, h9_17⟩ := f_inv H k165_17 (by decide +kernel) (as := []) (b := 314) (r := []) (by rfl) (c_mfails e5 e4)
    replace H := h9_17
    replace H := f_iret H k165_20
    exact ⟨_, _, H, Or.inr ⟨c, rfl, mI_at⟩⟩
theorem c_mtakes2 {m : xM} {s : Int32} (hw : m.1 314 11 ≠ -1) : fC 165 [.ref 314, .int s] m (fun rv m' => rv = some (.int 0) ∧ m' = m) := by
  refine fC_of (by decide) (fun d n P H => ?_)
  replace H := f_aload_n H k165_0 rfl
  replace H := f_gi H k165_1 (ci := 12) (f := 11) (by decide +kernel) (by decide)
  replace H := f_iconst H k165_4 (v := -1) (by decide)
  replace H := f_icmp_ne_t H k165_5 hw (t := 16) (by decide)
  replace H := f_aload_n H k165_16 rfl
  obtain ⟨rv, m', ⟨rfl, rfl⟩, h9_17⟩ := f_inv H k165_17 (by decide +kernel) (as := []) (b := 314) (r := []) (by rfl) (c_mfails2 hw)
  replace H := h9_17
  replace H := f_iret H k165_20
  exact ⟨_, _, H, rfl, rfl⟩
theorem c_misDigit {m : xM} {N h : Nat} {u : Nat → Int32} (hr : rS m) (htx : m.2.2 314 5 = some 315) (e2 : m.1 314 8 = 0) (e3 : m.1 314 9 = nI N) (e4 : m.1 314 10 = nI h) (e7 : m.1 315 = u) (e8 : ∀ i, byR (u i)) (e9 : N ≤ 240) (e10 : h ≤ N) : fC 166 [.ref 314] m (fun rv m' => ((isDg (atv N (tt u) h) ∧ rv = some (.int 1)) ∨ (¬ isDg (atv N (tt u) h) ∧ rv = some (.int 0))) ∧ m' = m) := by
  refine fC_of (by decide) (fun d n P H => ?_)
  have no : ¬ isDg (atv N (tt u) h) → xF 166 (xw d) P n 53 [(0, .ref 314)] [] m → ∃ rv m', P rv m' ∧ ((isDg (atv N (tt u) h) ∧ rv = some (.int 1)) ∨ (¬ isDg (atv N (tt u) h) ∧ rv = some (.int 0))) ∧ m' = m := by
    intro hc H
    replace H := f_iconst H k166_53 (v := 0) (by decide)
    replace H := f_iret H k166_54
    exact ⟨_, _, H, Or.inr ⟨hc, rfl⟩, rfl⟩
  replace H := f_aload_n H k166_0 rfl
  replace H := f_gi H k166_1 (ci := 12) (f := 10) (by decide +kernel) (by decide)
  replace H := f_aload_n H k166_4 rfl
  replace H := f_gi H k166_5 (ci := 12) (f := 9) (by decide +kernel) (by decide)
  rw [e4, e3] at H
  have Hbr := f_icmp_ge H k166_8 (t := 53) (by decide)
  clear H
  rcases Hbr with ⟨c, H⟩ | ⟨c, H⟩
  · rw [nI_lt2 (by omega) (by omega)] at c
    exact no (fun z => by have := dg_lt z; omega) H
  · rw [nI_lt2 (by omega) (by omega)] at c
    have ea : atv N (tt u) h = u h &&& 255 := atv_t (by omega)
    have hz := by_dg (e8 h)
    rw [← ea] at hz
    replace H := f_aload_n H k166_11 rfl
    replace H := f_gr H k166_12 (ci := 12) (f := 5) (x := 315) (by decide +kernel) (by decide) htx
    replace H := f_aload_n H k166_15 rfl
    replace H := f_gi H k166_16 (ci := 12) (f := 8) (by decide +kernel) (by decide)
    replace H := f_aload_n H k166_19 rfl
    replace H := f_gi H k166_20 (ci := 12) (f := 10) (by decide +kernel) (by decide)
    replace H := f_iadd H k166_23
    have Hob := f_bald H k166_24 (c := 240) (by decide)
    clear H
    obtain ⟨hb24, H⟩ := Hob
    replace H := f_bipush H k166_25 (v := 48) (by decide)
    rw [e4, e2, show (0 : Int32) + nI h = nI h from (Int32.zero_add _), nI_clamp (by omega), e7] at H
    have Hbr := f_icmp_lt H k166_27 (t := 53) (by decide)
    clear H
    rcases Hbr with ⟨c1, H⟩ | ⟨c1, H⟩
    · exact no (fun z => Int32.not_le.mpr c1 (hz.mpr z).1) H
    · replace H := f_aload_n H k166_30 rfl
      replace H := f_gr H k166_31 (ci := 12) (f := 5) (x := 315) (by decide +kernel) (by decide) htx
      replace H := f_aload_n H k166_34 rfl
      replace H := f_gi H k166_35 (ci := 12) (f := 8) (by decide +kernel) (by decide)
      replace H := f_aload_n H k166_38 rfl
      replace H := f_gi H k166_39 (ci := 12) (f := 10) (by decide +kernel) (by decide)
      replace H := f_iadd H k166_42
      have Hob := f_bald H k166_43 (c := 240) (by decide)
      clear H
      obtain ⟨hb43, H⟩ := Hob
      replace H := f_bipush H k166_44 (v := 57) (by decide)
      rw [e4, e2, show (0 : Int32) + nI h = nI h from (Int32.zero_add _), nI_clamp (by omega), e7] at H
      have Hbr := f_icmp_gt H k166_46 (t := 53) (by decide)
      clear H
      rcases Hbr with ⟨c2, H⟩ | ⟨c2, H⟩
      · exact no (fun z => Int32.not_le.mpr c2 (hz.mpr z).2) H
      · replace H := f_iconst H k166_49 (v := 1) (by decide)
        replace H := f_goto H k166_50 (t := 54) (by decide)
        replace H := f_iret H k166_54
        exact ⟨_, _, H, Or.inl ⟨hz.mp ⟨Int32.not_lt.mp c1, Int32.not_lt.mp c2⟩, rfl⟩, rfl⟩
theorem k157_0 : lkc 0 (kcode 157) = some (.iconst 0) := by decide +kernel
theorem k157_1 : lkc 1 (kcode 157) = some (.istore_n 2) := by decide +kernel
theorem k157_2 : lkc 2 (kcode 157) = some (.iload_n 2) := by decide +kernel
theorem k157_3 : lkc 3 (kcode 157) = some (.aload_n 0) := by decide +kernel
theorem k157_4 : lkc 4 (kcode 157) = some (.invokevirtual 93) := by decide +kernel
theorem k157_7 : lkc 7 (kcode 157) = some (.if_icmp .ge 20) := by decide +kernel
theorem k157_10 : lkc 10 (kcode 157) = some (.aload_n 0) := by decide +kernel
theorem k157_11 : lkc 11 (kcode 157) = some (.iload_n 2) := by decide +kernel
theorem k157_12 : lkc 12 (kcode 157) = some (.invokevirtual 99) := by decide +kernel
theorem k157_15 : lkc 15 (kcode 157) = some (.iload_n 1) := by decide +kernel
theorem k157_16 : lkc 16 (kcode 157) = some (.if_icmp .ne 5) := by decide +kernel
theorem k157_19 : lkc 19 (kcode 157) = some (.iconst 1) := by decide +kernel
theorem k157_20 : lkc 20 (kcode 157) = some (.ireturn) := by decide +kernel
theorem k157_21 : lkc 21 (kcode 157) = some (.iinc 2 1) := by decide +kernel
theorem k157_24 : lkc 24 (kcode 157) = some (.goto (-22)) := by decide +kernel
theorem k157_27 : lkc 27 (kcode 157) = some (.iconst 0) := by decide +kernel
theorem k157_28 : lkc 28 (kcode 157) = some (.ireturn) := by decide +kernel
theorem k164_0 : lkc 0 (kcode 164) = some (.aload_n 0) := by decide +kernel
theorem k164_1 : lkc 1 (kcode 164) = some (.getfield 125) := by decide +kernel
theorem k164_4 : lkc 4 (kcode 164) = some (.bipush 6) := by decide +kernel
theorem k164_6 : lkc 6 (kcode 164) = some (.if_icmp .ne 8) := by decide +kernel
theorem k164_9 : lkc 9 (kcode 164) = some (.aload_n 0) := by decide +kernel
theorem k164_10 : lkc 10 (kcode 164) = some (.invokevirtual 128) := by decide +kernel
theorem k164_13 : lkc 13 (kcode 164) = some (.ireturn) := by decide +kernel
theorem k164_14 : lkc 14 (kcode 164) = some (.aload_n 0) := by decide +kernel
theorem k164_15 : lkc 15 (kcode 164) = some (.dup) := by decide +kernel
theorem k164_16 : lkc 16 (kcode 164) = some (.getfield 125) := by decide +kernel
theorem k164_19 : lkc 19 (kcode 164) = some (.iconst 1) := by decide +kernel
theorem k164_20 : lkc 20 (kcode 164) = some (.iadd) := by decide +kernel
theorem k164_21 : lkc 21 (kcode 164) = some (.putfield 125) := by decide +kernel
theorem k164_24 : lkc 24 (kcode 164) = some (.aload_n 0) := by decide +kernel
theorem k164_25 : lkc 25 (kcode 164) = some (.dup) := by decide +kernel
theorem k164_26 : lkc 26 (kcode 164) = some (.getfield 113) := by decide +kernel
theorem k164_29 : lkc 29 (kcode 164) = some (.iconst 1) := by decide +kernel
theorem k164_30 : lkc 30 (kcode 164) = some (.iadd) := by decide +kernel
theorem k164_31 : lkc 31 (kcode 164) = some (.putfield 113) := by decide +kernel
theorem k164_34 : lkc 34 (kcode 164) = some (.iconst 1) := by decide +kernel
theorem k164_35 : lkc 35 (kcode 164) = some (.ireturn) := by decide +kernel
theorem k168_0 : lkc 0 (kcode 168) = some (.aload_n 0) := by decide +kernel
theorem k168_1 : lkc 1 (kcode 168) = some (.invokevirtual 132) := by decide +kernel
theorem k168_4 : lkc 4 (kcode 168) = some (.istore_n 1) := by decide +kernel
theorem k168_5 : lkc 5 (kcode 168) = some (.ldc 32) := by decide +kernel
theorem k168_7 : lkc 7 (kcode 168) = some (.iload_n 1) := by decide +kernel
theorem k168_8 : lkc 8 (kcode 168) = some (.invokestatic 148) := by decide +kernel
theorem k168_11 : lkc 11 (kcode 168) = some (.ifCond .eq 20) := by decide +kernel
theorem k168_14 : lkc 14 (kcode 168) = some (.aload_n 0) := by decide +kernel
theorem k168_15 : lkc 15 (kcode 168) = some (.dup) := by decide +kernel
theorem k168_16 : lkc 16 (kcode 168) = some (.getfield 113) := by decide +kernel
theorem k168_19 : lkc 19 (kcode 168) = some (.iconst 1) := by decide +kernel
theorem k168_20 : lkc 20 (kcode 168) = some (.iadd) := by decide +kernel
theorem k168_21 : lkc 21 (kcode 168) = some (.putfield 113) := by decide +kernel
theorem k168_24 : lkc 24 (kcode 168) = some (.aload_n 0) := by decide +kernel
theorem k168_25 : lkc 25 (kcode 168) = some (.getfield 20) := by decide +kernel
theorem k168_28 : lkc 28 (kcode 168) = some (.iload_n 1) := by decide +kernel
theorem k168_29 : lkc 29 (kcode 168) = some (.iaload) := by decide +kernel
theorem k168_30 : lkc 30 (kcode 168) = some (.ireturn) := by decide +kernel
theorem k168_31 : lkc 31 (kcode 168) = some (.iload_n 1) := by decide +kernel
theorem k168_32 : lkc 32 (kcode 168) = some (.bipush 91) := by decide +kernel
theorem k168_34 : lkc 34 (kcode 168) = some (.if_icmp .ne 40) := by decide +kernel
theorem k168_37 : lkc 37 (kcode 168) = some (.aload_n 0) := by decide +kernel
theorem k168_38 : lkc 38 (kcode 168) = some (.invokevirtual 152) := by decide +kernel
theorem k168_41 : lkc 41 (kcode 168) = some (.ifCond .ne 5) := by decide +kernel
theorem k168_44 : lkc 44 (kcode 168) = some (.iconst 0) := by decide +kernel
theorem k168_45 : lkc 45 (kcode 168) = some (.ireturn) := by decide +kernel
theorem k168_46 : lkc 46 (kcode 168) = some (.aload_n 0) := by decide +kernel
theorem k168_47 : lkc 47 (kcode 168) = some (.invokevirtual 155) := by decide +kernel
theorem k168_50 : lkc 50 (kcode 168) = some (.istore_n 2) := by decide +kernel
theorem k168_51 : lkc 51 (kcode 168) = some (.aload_n 0) := by decide +kernel
theorem k168_52 : lkc 52 (kcode 168) = some (.bipush 93) := by decide +kernel
theorem k168_54 : lkc 54 (kcode 168) = some (.invokevirtual 158) := by decide +kernel
theorem k168_57 : lkc 57 (kcode 168) = some (.ifCond .ne 5) := by decide +kernel
theorem k168_60 : lkc 60 (kcode 168) = some (.iconst 0) := by decide +kernel
theorem k168_61 : lkc 61 (kcode 168) = some (.ireturn) := by decide +kernel
theorem k168_62 : lkc 62 (kcode 168) = some (.aload_n 0) := by decide +kernel
theorem k168_63 : lkc 63 (kcode 168) = some (.dup) := by decide +kernel
theorem k168_64 : lkc 64 (kcode 168) = some (.getfield 125) := by decide +kernel
theorem k168_67 : lkc 67 (kcode 168) = some (.iconst 1) := by decide +kernel
theorem k168_68 : lkc 68 (kcode 168) = some (.isub) := by decide +kernel
theorem k168_69 : lkc 69 (kcode 168) = some (.putfield 125) := by decide +kernel
theorem k168_72 : lkc 72 (kcode 168) = some (.iload_n 2) := by decide +kernel
theorem k168_73 : lkc 73 (kcode 168) = some (.ireturn) := by decide +kernel
theorem k168_74 : lkc 74 (kcode 168) = some (.aload_n 0) := by decide +kernel
theorem k168_75 : lkc 75 (kcode 168) = some (.invokevirtual 162) := by decide +kernel
theorem k168_78 : lkc 78 (kcode 168) = some (.ifCond .ne 8) := by decide +kernel
theorem k168_81 : lkc 81 (kcode 168) = some (.aload_n 0) := by decide +kernel
theorem k168_82 : lkc 82 (kcode 168) = some (.invokevirtual 128) := by decide +kernel
theorem k168_85 : lkc 85 (kcode 168) = some (.pop) := by decide +kernel
theorem k168_86 : lkc 86 (kcode 168) = some (.iconst 0) := by decide +kernel
theorem k168_87 : lkc 87 (kcode 168) = some (.istore_n 2) := by decide +kernel
theorem k168_88 : lkc 88 (kcode 168) = some (.iconst 0) := by decide +kernel
theorem k168_89 : lkc 89 (kcode 168) = some (.istore_n 3) := by decide +kernel
theorem k168_90 : lkc 90 (kcode 168) = some (.aload_n 0) := by decide +kernel
theorem k168_91 : lkc 91 (kcode 168) = some (.invokevirtual 162) := by decide +kernel
theorem k168_94 : lkc 94 (kcode 168) = some (.ifCond .eq 62) := by decide +kernel
theorem k168_97 : lkc 97 (kcode 168) = some (.aload_n 0) := by decide +kernel
theorem k168_98 : lkc 98 (kcode 168) = some (.getfield 122) := by decide +kernel
theorem k168_101 : lkc 101 (kcode 168) = some (.iconst (-1)) := by decide +kernel
theorem k168_102 : lkc 102 (kcode 168) = some (.if_icmp .ne 54) := by decide +kernel
theorem k168_105 : lkc 105 (kcode 168) = some (.iload_n 3) := by decide +kernel
theorem k168_106 : lkc 106 (kcode 168) = some (.iconst 4) := by decide +kernel
theorem k168_107 : lkc 107 (kcode 168) = some (.if_icmp .ne 10) := by decide +kernel
theorem k168_110 : lkc 110 (kcode 168) = some (.aload_n 0) := by decide +kernel
theorem k168_111 : lkc 111 (kcode 168) = some (.invokevirtual 128) := by decide +kernel
theorem k168_114 : lkc 114 (kcode 168) = some (.pop) := by decide +kernel
theorem k168_115 : lkc 115 (kcode 168) = some (.iconst 0) := by decide +kernel
theorem k168_116 : lkc 116 (kcode 168) = some (.ireturn) := by decide +kernel
theorem k168_117 : lkc 117 (kcode 168) = some (.bipush 10) := by decide +kernel
theorem k168_119 : lkc 119 (kcode 168) = some (.iload_n 2) := by decide +kernel
theorem k168_120 : lkc 120 (kcode 168) = some (.imul) := by decide +kernel
theorem k168_121 : lkc 121 (kcode 168) = some (.aload_n 0) := by decide +kernel
theorem k168_122 : lkc 122 (kcode 168) = some (.getfield 23) := by decide +kernel
theorem k168_125 : lkc 125 (kcode 168) = some (.aload_n 0) := by decide +kernel
theorem k168_126 : lkc 126 (kcode 168) = some (.getfield 119) := by decide +kernel
theorem k168_129 : lkc 129 (kcode 168) = some (.aload_n 0) := by decide +kernel
theorem k168_130 : lkc 130 (kcode 168) = some (.getfield 113) := by decide +kernel
theorem k168_133 : lkc 133 (kcode 168) = some (.iadd) := by decide +kernel
theorem k168_134 : lkc 134 (kcode 168) = some (.baload) := by decide +kernel
theorem k168_135 : lkc 135 (kcode 168) = some (.iadd) := by decide +kernel
theorem k168_136 : lkc 136 (kcode 168) = some (.bipush 48) := by decide +kernel
theorem k168_138 : lkc 138 (kcode 168) = some (.isub) := by decide +kernel
theorem k168_139 : lkc 139 (kcode 168) = some (.istore_n 2) := by decide +kernel
theorem k168_140 : lkc 140 (kcode 168) = some (.aload_n 0) := by decide +kernel
theorem k168_141 : lkc 141 (kcode 168) = some (.dup) := by decide +kernel
theorem k168_142 : lkc 142 (kcode 168) = some (.getfield 113) := by decide +kernel
theorem k168_145 : lkc 145 (kcode 168) = some (.iconst 1) := by decide +kernel
theorem k168_146 : lkc 146 (kcode 168) = some (.iadd) := by decide +kernel
theorem k168_147 : lkc 147 (kcode 168) = some (.putfield 113) := by decide +kernel
theorem k168_150 : lkc 150 (kcode 168) = some (.iinc 3 1) := by decide +kernel
theorem k168_153 : lkc 153 (kcode 168) = some (.goto (-63)) := by decide +kernel
theorem k168_156 : lkc 156 (kcode 168) = some (.iload_n 2) := by decide +kernel
theorem k168_157 : lkc 157 (kcode 168) = some (.ireturn) := by decide +kernel
theorem k171_0 : lkc 0 (kcode 171) = some (.iload_n 0) := by decide +kernel
theorem k171_1 : lkc 1 (kcode 171) = some (.bipush 61) := by decide +kernel
theorem k171_3 : lkc 3 (kcode 171) = some (.if_icmp .eq 15) := by decide +kernel
theorem k171_6 : lkc 6 (kcode 171) = some (.iload_n 0) := by decide +kernel
theorem k171_7 : lkc 7 (kcode 171) = some (.bipush 60) := by decide +kernel
theorem k171_9 : lkc 9 (kcode 171) = some (.if_icmp .eq 9) := by decide +kernel
theorem k171_12 : lkc 12 (kcode 171) = some (.iload_n 0) := by decide +kernel
theorem k171_13 : lkc 13 (kcode 171) = some (.bipush 62) := by decide +kernel
theorem k171_15 : lkc 15 (kcode 171) = some (.if_icmp .ne 7) := by decide +kernel
theorem k171_18 : lkc 18 (kcode 171) = some (.iconst 1) := by decide +kernel
theorem k171_19 : lkc 19 (kcode 171) = some (.goto 4) := by decide +kernel
theorem k171_22 : lkc 22 (kcode 171) = some (.iconst 0) := by decide +kernel
theorem k171_23 : lkc 23 (kcode 171) = some (.ireturn) := by decide +kernel
/-! forward: the reference's reader of a law's text: isAmong, goesIn, isSign, atom -/
theorem c_isAmongL {m : xM} {s : Int32} : fC 157 [.ref 1001, .int s] m (fun rv m' => ((isLet s ∧ rv = some (.int 1)) ∨ (¬ isLet s ∧ rv = some (.int 0))) ∧ m' = m) := by
  refine fC_of (by decide) (fun d n P H => ?_)
  have key : ∀ k n, k ≤ 6 → (∀ i, i < k → cst 1001 i ≠ s) → xF 157 (xw d) P (n + 1) 2 [(2, .int (nI k)), (0, .ref 1001), (1, .int s)] [] m → ∃ rv m', P rv m' ∧ ((isLet s ∧ rv = some (.int 1)) ∨ (¬ isLet s ∧ rv = some (.int 0))) ∧ m' = m := by
    intro k n
    induction n generalizing k with
    | zero => exact fun _ _ H => (xF_0 (f1_iload_n H k157_2 rfl)).elim
    | succ n ih =>
      intro hk hno H
      replace H := f1_iload_n H k157_2 rfl
      replace H := f_aload_n H k157_3 rfl
      replace H := f_slen H k157_4 (x := 1) (c := 6) (by decide +kernel) (by decide)
      have Hbr := f_icmp_ge H k157_7 (t := 27) (by decide)
      clear H
      rcases Hbr with ⟨c, H⟩ | ⟨c, H⟩
      · rw [nI_lt2 (by omega) (by omega)] at c
        replace H := f_iconst H k157_27 (v := 0) (by decide)
        replace H := f_iret H k157_28
        refine ⟨_, _, H, Or.inr ⟨fun z => ?_, rfl⟩, rfl⟩
        rcases z with z | z | z | z | z | z
        · exact hno 0 (by omega) (by rw [z]; decide)
        · exact hno 1 (by omega) (by rw [z]; decide)
        · exact hno 2 (by omega) (by rw [z]; decide)
        · exact hno 3 (by omega) (by rw [z]; decide)
        · exact hno 4 (by omega) (by rw [z]; decide)
        · exact hno 5 (by omega) (by rw [z]; decide)
      · rw [nI_lt2 (by omega) (by omega)] at c
        replace H := f_aload_n H k157_10 rfl
        replace H := f_iload_n H k157_11 rfl
        have Hob := f_sch H k157_12 (x := 1) (c := 6) (by decide +kernel) (by decide)
        clear H
        obtain ⟨hb12, H⟩ := Hob
        replace H := f_iload_n H k157_15 rfl
        rw [nI_clamp (by omega)] at H
        have Hbr := f_icmp_ne H k157_16 (t := 21) (by decide)
        clear H
        rcases Hbr with ⟨c2, H⟩ | ⟨c2, H⟩
        · replace H := f_iinc H k157_21 rfl (l2 := [(2, .int (nI k + 1)), (0, .ref 1001), (1, .int s)]) rfl
          replace H := f_goto H k157_24 (t := 2) (by decide)
          rw [nI_s] at H
          refine ih (k + 1) (by omega) (fun i hi => ?_) H
          by_cases e : i = k
          · rw [e]; exact c2
          · exact hno i (by omega)
        · replace H := f_iconst H k157_19 (v := 1) (by decide)
          replace H := f_iret H k157_20
          refine ⟨_, _, H, Or.inl ⟨?_, rfl⟩, rfl⟩
          rw [← c2]
          have hk6 : k < 6 := by omega
          match k, hk6 with
          | 0, _ => decide
          | 1, _ => decide
          | 2, _ => decide
          | 3, _ => decide
          | 4, _ => decide
          | 5, _ => decide
          | k + 6, h => omega
  replace H := f_iconst H k157_0 (v := 0) (by decide)
  replace H := f_istore_n H k157_1 (l2 := [(2, .int 0), (0, .ref 1001), (1, .int s)]) rfl
  exact key 0 n (by omega) (fun i hi => by omega) (f_up H (Nat.le_succ _))
theorem c_isAmongY {m : xM} {s : Int32} : fC 157 [.ref 1000, .int s] m (fun rv m' => ((s = 121 ∧ rv = some (.int 1)) ∨ (s ≠ 121 ∧ rv = some (.int 0))) ∧ m' = m) := by
  refine fC_of (by decide) (fun d n P H => ?_)
  have key : ∀ k n, k ≤ 1 → (∀ i, i < k → cst 1000 i ≠ s) → xF 157 (xw d) P (n + 1) 2 [(2, .int (nI k)), (0, .ref 1000), (1, .int s)] [] m → ∃ rv m', P rv m' ∧ ((s = 121 ∧ rv = some (.int 1)) ∨ (s ≠ 121 ∧ rv = some (.int 0))) ∧ m' = m := by
    intro k n
    induction n generalizing k with
    | zero => exact fun _ _ H => (xF_0 (f1_iload_n H k157_2 rfl)).elim
    | succ n ih =>
      intro hk hno H
      replace H := f1_iload_n H k157_2 rfl
      replace H := f_aload_n H k157_3 rfl
      replace H := f_slen H k157_4 (x := 0) (c := 1) (by decide +kernel) (by decide)
      have Hbr := f_icmp_ge H k157_7 (t := 27) (by decide)
      clear H
      rcases Hbr with ⟨c, H⟩ | ⟨c, H⟩
      · rw [nI_lt2 (by omega) (by omega)] at c
        replace H := f_iconst H k157_27 (v := 0) (by decide)
        replace H := f_iret H k157_28
        exact ⟨_, _, H, Or.inr ⟨fun z => hno 0 (by omega) (by rw [z]; decide), rfl⟩, rfl⟩
      · rw [nI_lt2 (by omega) (by omega)] at c
        replace H := f_aload_n H k157_10 rfl
        replace H := f_iload_n H k157_11 rfl
        have Hob := f_sch H k157_12 (x := 0) (c := 1) (by decide +kernel) (by decide)
        clear H
        obtain ⟨hb12, H⟩ := Hob
        replace H := f_iload_n H k157_15 rfl
        rw [nI_clamp (by omega)] at H
        have Hbr := f_icmp_ne H k157_16 (t := 21) (by decide)
        clear H
        rcases Hbr with ⟨c2, H⟩ | ⟨c2, H⟩
        · replace H := f_iinc H k157_21 rfl (l2 := [(2, .int (nI k + 1)), (0, .ref 1000), (1, .int s)]) rfl
          replace H := f_goto H k157_24 (t := 2) (by decide)
          rw [nI_s] at H
          refine ih (k + 1) (by omega) (fun i hi => ?_) H
          by_cases e : i = k
          · rw [e]; exact c2
          · exact hno i (by omega)
        · replace H := f_iconst H k157_19 (v := 1) (by decide)
          replace H := f_iret H k157_20
          refine ⟨_, _, H, Or.inl ⟨?_, rfl⟩, rfl⟩
          rw [← c2, show k = 0 by omega]
          decide
  replace H := f_iconst H k157_0 (v := 0) (by decide)
  replace H := f_istore_n H k157_1 (l2 := [(2, .int 0), (0, .ref 1000), (1, .int s)]) rfl
  exact key 0 n (by omega) (fun i hi => by omega) (f_up H (Nat.le_succ _))
theorem c_isSign {m : xM} {s : Int32} : fC 171 [.int s] m (fun rv m' => ((isRel s ∧ rv = some (.int 1)) ∨ (¬ isRel s ∧ rv = some (.int 0))) ∧ m' = m) := by
  refine fC_of (by decide) (fun d n P H => ?_)
  have yes : isRel s → xF 171 (xw d) P n 18 [(0, .int s)] [] m → ∃ rv m', P rv m' ∧ ((isRel s ∧ rv = some (.int 1)) ∨ (¬ isRel s ∧ rv = some (.int 0))) ∧ m' = m := by
    intro hl H
    replace H := f_iconst H k171_18 (v := 1) (by decide)
    replace H := f_goto H k171_19 (t := 23) (by decide)
    replace H := f_iret H k171_23
    exact ⟨_, _, H, Or.inl ⟨hl, rfl⟩, rfl⟩
  replace H := f_iload_n H k171_0 rfl
  replace H := f_bipush H k171_1 (v := 61) (by decide)
  have Hbr := f_icmp_eq H k171_3 (t := 18) (by decide)
  clear H
  rcases Hbr with ⟨c, H⟩ | ⟨c, H⟩
  · exact yes (Or.inl c) H
  replace H := f_iload_n H k171_6 rfl
  replace H := f_bipush H k171_7 (v := 60) (by decide)
  have Hbr := f_icmp_eq H k171_9 (t := 18) (by decide)
  clear H
  rcases Hbr with ⟨c2, H⟩ | ⟨c2, H⟩
  · exact yes (Or.inr (Or.inl c2)) H
  replace H := f_iload_n H k171_12 rfl
  replace H := f_bipush H k171_13 (v := 62) (by decide)
  have Hbr := f_icmp_ne H k171_15 (t := 22) (by decide)
  clear H
  rcases Hbr with ⟨c3, H⟩ | ⟨c3, H⟩
  · replace H := f_iconst H k171_22 (v := 0) (by decide)
    replace H := f_iret H k171_23
    exact ⟨_, _, H, Or.inr ⟨fun z => by rcases z with z | z | z <;> contradiction, rfl⟩, rfl⟩
  · exact yes (Or.inr (Or.inr c3)) H
/-- what a reading of the items is from h says, at depth dp -/
def mO (N : Nat) (u : Nat → Int32) (h dp : Nat) (is : List It) (m' : xM) : Prop := (∃ h2, mS m' N h2 dp u ∧ h ≤ h2 ∧ Rok N (tt u) is h h2) ∨ (∃ w, m'.1 314 11 = nI w ∧ w ≤ N ∧ Rno N (tt u) is h w)
theorem nI_n1 {w N : Nat} (hw : w ≤ N) (hN : N ≤ 240) : nI w ≠ -1 := fun e => by
  have := congrArg Int32.toInt e
  rw [nI_toInt (by omega), show (-1 : Int32).toInt = -1 by decide] at this
  omega
theorem nI_1s {a : Nat} : nI (a + 1) - 1 = nI a := by
  rw [← nI_s]
  exact Int32.add_sub_cancel _ _
theorem c_goesIn {m : xM} {N h dp : Nat} {u : Nat → Int32} (hm : mS m N h dp u) (hh : h < N) : fC 164 [.ref 314] m (fun rv m' => (dp < 6 ∧ rv = some (.int 1) ∧ mS m' N (h + 1) (dp + 1) u) ∨ (¬ dp < 6 ∧ rv = some (.int 0) ∧ m'.1 314 11 = nI h)) := by
  refine fC_of (by decide) (fun d n P H => ?_)
  obtain ⟨hr, htx, e2, e3, e4, e5, e6, e7, e8, e9, e10, e11⟩ := id hm
  replace H := f_aload_n H k164_0 rfl
  replace H := f_gi H k164_1 (ci := 12) (f := 12) (by decide +kernel) (by decide)
  replace H := f_bipush H k164_4 (v := 6) (by decide)
  rw [e6] at H
  have Hbr := f_icmp_ne H k164_6 (t := 14) (by decide)
  clear H
  rcases Hbr with ⟨c, H⟩ | ⟨c, H⟩
  · have c6 : dp < 6 := by
      by_cases h6 : dp = 6
      · rw [h6] at c; exact absurd rfl c
      · omega
    replace H := f_aload_n H k164_14 rfl
    replace H := f_dup H k164_15
    replace H := f_gi H k164_16 (ci := 12) (f := 12) (by decide +kernel) (by decide)
    replace H := f_iconst H k164_19 (v := 1) (by decide)
    replace H := f_iadd H k164_20
    replace H := f_put_i H k164_21 (ci := 12) (f := 12) (by decide +kernel) (by decide)
    rw [e6, nI_s] at H
    have hm2 := mS_d hm (d2 := dp + 1) (by omega)
    have e42 := hm2.2.2.2.2.1
    replace H := f_aload_n H k164_24 rfl
    replace H := f_dup H k164_25
    replace H := f_gi H k164_26 (ci := 12) (f := 10) (by decide +kernel) (by decide)
    replace H := f_iconst H k164_29 (v := 1) (by decide)
    replace H := f_iadd H k164_30
    replace H := f_put_i H k164_31 (ci := 12) (f := 10) (by decide +kernel) (by decide)
    replace H := f_iconst H k164_34 (v := 1) (by decide)
    rw [e42, nI_s] at H
    replace H := f_iret H k164_35
    exact ⟨_, _, H, Or.inl ⟨c6, rfl, mS_h hm2 (by omega)⟩⟩
  · have c6 : dp = 6 := by
      have := congrArg Int32.toInt c
      rw [nI_toInt (by omega), show (6 : Int32).toInt = 6 by decide] at this
      omega
    replace H := f_aload_n H k164_9 rfl
    obtain ⟨rv, m', ⟨rfl, rfl⟩, h9_10⟩ := f_inv H k164_10 (by decide +kernel) (as := []) (b := 314) (r := []) (by rfl) (c_mfails e5 e4)
    replace H := h9_10
    replace H := f_iret H k164_13
    exact ⟨_, _, H, Or.inr ⟨by omega, rfl, mI_at⟩⟩
set_option maxHeartbeats 4000000 in
theorem c_matom {m : xM} {N h dp : Nat} {u : Nat → Int32} (hm : mS m N h dp u) (hs : dp < 6 → ∀ m h, mS m N h (dp + 1) u → fC 170 [.ref 314] m (fun rv m' => (∃ v, rv = some (.int v)) ∧ mO N u h (dp + 1) [.sum (dp + 1)] m')) : fC 168 [.ref 314] m (fun rv m' => (∃ v, rv = some (.int v)) ∧ mO N u h dp [.atom dp] m') := by
  refine fC_of (by decide) (fun d n P H => ?_)
  have hN : N ≤ 240 := hm.2.2.2.2.2.2.2.2.2.1
  have hh : h ≤ N := hm.2.2.2.2.2.2.2.2.2.2.1
  have hp : sk N (tt u) h ≤ N := sk_le hh
  have hge : h ≤ sk N (tt u) h := sk_ge
  have hdp : dp ≤ 6 := hm.2.2.2.2.2.2.2.2.2.2.2
  replace H := f_aload_n H k168_0 rfl
  obtain ⟨rv, m1, ⟨rfl, e9⟩, h9_1⟩ := f_inv H k168_1 (by decide +kernel) (as := []) (b := 314) (r := []) (by rfl) (c_look hm)
  replace H := h9_1
  have hm1 : mS m1 N (sk N (tt u) h) dp u := by rw [e9]; exact mS_h hm hp
  clear e9
  have hst : ∀ i, stP N (tt u) i h = stI N (tt u) h (sk N (tt u) h) (atv N (tt u) (sk N (tt u) h)) i := fun i => rfl
  generalize sk N (tt u) h = p at *
  generalize hse : atv N (tt u) p = s at *
  have hlt : s ≠ -1 → p < N := fun z => by
    by_cases h9 : p < N
    · exact h9
    · exact absurd (by rw [← hse, atv_e h9]) z
  obtain ⟨hr, htx, e2, e3, e4, e5, e6, e7, e8, e9, e10, e11⟩ := id hm1
  replace H := f_istore_n H k168_4 (l2 := [(1, .int _), (0, .ref 314)]) rfl
  replace H := f_ldc_r H k168_5 (v := 1001) (by decide +kernel)
  replace H := f_iload_n H k168_7 rfl
  obtain ⟨rv, m2, ⟨hz, rfl⟩, h9_8⟩ := f_ins H k168_8 (by decide +kernel) (as := [.ref 1001, .int _]) (r := []) (by rfl) (c_isAmongL)
  replace H := h9_8
  rcases hz with ⟨hz, rfl⟩ | ⟨hz, rfl⟩
  · have hpN : p < N := hlt (fun z => by rw [z] at hz; exact absurd hz (by decide))
    have hnd : ¬ isDg s := by rcases hz with z | z | z | z | z | z <;> rw [z] <;> decide
    replace H := f_if_eq_f H k168_11 (by decide)
    replace H := f_aload_n H k168_14 rfl
    replace H := f_dup H k168_15
    replace H := f_gi H k168_16 (ci := 12) (f := 10) (by decide +kernel) (by decide)
    replace H := f_iconst H k168_19 (v := 1) (by decide)
    replace H := f_iadd H k168_20
    replace H := f_put_i H k168_21 (ci := 12) (f := 10) (by decide +kernel) (by decide)
    replace H := f_aload_n H k168_24 rfl
    replace H := f_gr H k168_25 (ci := 12) (f := 4) (x := 318) (by decide +kernel) (by decide) (hr 314 4 318 rfl)
    replace H := f_iload_n H k168_28 rfl
    have Hob := f_iald H k168_29 (c := 128) (by decide)
    clear H
    obtain ⟨hb29, H⟩ := Hob
    rw [e4, nI_s] at H
    replace H := f_iret H k168_30
    refine ⟨_, _, H, ⟨_, rfl⟩, Or.inl ⟨p + 1, mS_h hm1 (by omega), by omega, Rok_go (is := []) ?_ Rok_nil⟩⟩
    rw [hst, st_atom, if_neg hnd, if_pos hz]
  replace H := f_if_eq_t H k168_11 rfl (t := 31) (by decide)
  replace H := f_iload_n H k168_31 rfl
  replace H := f_bipush H k168_32 (v := 91) (by decide)
  have Hbr := f_icmp_ne H k168_34 (t := 74) (by decide)
  clear H
  rcases Hbr with ⟨c91, H⟩ | ⟨c91, H⟩
  · -- digits
    have hnb : ¬ (s = 91 ∧ dp < 6) := fun z => c91 z.1
    have dig : ∀ n k h2 v m2, k ≤ 4 → mS m2 N h2 dp u → p < h2 ∨ k = 0 ∧ h2 = p → h2 = p + k → rdg N (tt u) 4 p 0 = rdg N (tt u) (4 - k) h2 v → (0 < k ∨ isDg s) → isDg s → xF 168 (xw d) P (n + 1) 90 [(3, .int (nI k)), (2, .int v), (1, .int s), (0, .ref 314)] [] m2 → ∃ rv m', P rv m' ∧ (∃ v, rv = some (.int v)) ∧ mO N u h dp [.atom dp] m' := by
      intro n
      induction n with
      | zero => exact fun k h2 v m2 _ _ _ _ _ _ _ H => (xF_0 (f1_aload_n H k168_90 rfl)).elim
      | succ n ih =>
        intro k h2 v m2 hk hm2 hph hpk hq hk0 hds H
        obtain ⟨hr, htx, e2, e3, e4, e5, e6, e7, e8, e9, e10, e11⟩ := id hm2
        replace H := f1_aload_n H k168_90 rfl
        obtain ⟨rv, m3, ⟨hz3, rfl⟩, h9_91⟩ := f_inv H k168_91 (by decide +kernel) (as := []) (b := 314) (r := []) (by rfl) (c_misDigit hr htx e2 e3 e4 e7 e8 e9 e10)
        replace H := h9_91
        rcases hz3 with ⟨hz3, rfl⟩ | ⟨hz3, rfl⟩
        · have h2N := dg_lt hz3
          replace H := f_if_eq_f H k168_94 (by decide)
          replace H := f_aload_n H k168_97 rfl
          replace H := f_gi H k168_98 (ci := 12) (f := 11) (by decide +kernel) (by decide)
          replace H := f_iconst H k168_101 (v := -1) (by decide)
          replace H := f_icmp_ne_f H k168_102 e5
          replace H := f_iload_n H k168_105 rfl
          replace H := f_iconst H k168_106 (v := 4) (by decide)
          have Hbr := f_icmp_ne H k168_107 (t := 117) (by decide)
          clear H
          rcases Hbr with ⟨c4, H⟩ | ⟨c4, H⟩
          · have hk4 : k < 4 := by
              by_cases h4 : k = 4
              · rw [h4] at c4; exact absurd rfl c4
              · omega
            replace H := f_bipush H k168_117 (v := 10) (by decide)
            replace H := f_iload_n H k168_119 rfl
            replace H := f_imul H k168_120
            replace H := f_aload_n H k168_121 rfl
            replace H := f_gr H k168_122 (ci := 12) (f := 5) (x := 315) (by decide +kernel) (by decide) htx
            replace H := f_aload_n H k168_125 rfl
            replace H := f_gi H k168_126 (ci := 12) (f := 8) (by decide +kernel) (by decide)
            replace H := f_aload_n H k168_129 rfl
            replace H := f_gi H k168_130 (ci := 12) (f := 10) (by decide +kernel) (by decide)
            replace H := f_iadd H k168_133
            have Hob := f_bald H k168_134 (c := 240) (by decide)
            clear H
            obtain ⟨hb134, H⟩ := Hob
            replace H := f_iadd H k168_135
            replace H := f_bipush H k168_136 (v := 48) (by decide)
            replace H := f_isub H k168_138
            rw [e2, e4, show (0 : Int32) + nI h2 = nI h2 from (Int32.zero_add _), nI_clamp (by omega), e7, by_dgv (e8 h2) (by rw [← atv_t h2N]; exact hz3), ← atv_t h2N, Int32.mul_comm] at H
            replace H := f_istore_n H k168_139 (l2 := [(2, .int _), (3, .int (nI k)), (1, .int s), (0, .ref 314)]) rfl
            replace H := f_aload_n H k168_140 rfl
            replace H := f_dup H k168_141
            replace H := f_gi H k168_142 (ci := 12) (f := 10) (by decide +kernel) (by decide)
            replace H := f_iconst H k168_145 (v := 1) (by decide)
            replace H := f_iadd H k168_146
            replace H := f_put_i H k168_147 (ci := 12) (f := 10) (by decide +kernel) (by decide)
            replace H := f_iinc H k168_150 rfl (l2 := [(3, .int (nI k + 1)), (2, .int _), (1, .int s), (0, .ref 314)]) rfl
            replace H := f_goto H k168_153 (t := 90) (by decide)
            rw [e4, nI_s, nI_s] at H
            have hq' := hq
            rw [show 4 - k = (4 - (k + 1)) + 1 by omega] at hq'
            have hq' : rdg N (tt u) 4 p 0 = (if isDg (atv N (tt u) h2) then rdg N (tt u) (4 - (k + 1)) (h2 + 1) (v * 10 + atv N (tt u) h2 - 48) else (h2, v)) := hq'
            rw [if_pos hz3] at hq'
            exact ih (k + 1) (h2 + 1) _ _ (by omega) (mS_h hm2 (by omega)) (Or.inl (by omega)) (by omega) hq' (Or.inl (by omega)) hds H
          · have hk4 : k = 4 := by
              have := congrArg Int32.toInt c4
              rw [nI_toInt (by omega), show (4 : Int32).toInt = 4 by decide] at this
              omega
            replace H := f_aload_n H k168_110 rfl
            obtain ⟨rv, m', ⟨rfl, rfl⟩, h9_111⟩ := f_inv H k168_111 (by decide +kernel) (as := []) (b := 314) (r := []) (by rfl) (c_mfails e5 e4)
            replace H := h9_111
            replace H := f_pop H k168_114
            replace H := f_iconst H k168_115 (v := 0) (by decide)
            replace H := f_iret H k168_116
            have hq2 : rdg N (tt u) 4 p 0 = (h2, v) := by rw [hq, hk4]; rfl
            refine ⟨_, _, H, ⟨_, rfl⟩, Or.inr ⟨h2, mI_at, e10, Rno_bad ?_⟩⟩
            rw [hst, st_atom, if_pos hds, hq2, if_pos hz3]
        · replace H := f_if_eq_t H k168_94 rfl (t := 156) (by decide)
          replace H := f_iload_n H k168_156 rfl
          replace H := f_iret H k168_157
          have hq2 : rdg N (tt u) 4 p 0 = (h2, v) := by
            rw [hq]
            cases e : 4 - k with
            | zero => rfl
            | succ q =>
              show (if isDg (atv N (tt u) h2) then _ else _) = _
              rw [if_neg hz3]
          refine ⟨_, _, H, ⟨_, rfl⟩, Or.inl ⟨h2, hm2, by omega, Rok_go (is := []) ?_ Rok_nil⟩⟩
          rw [hst, st_atom, if_pos hds, hq2, if_neg hz3]
    replace H := f_aload_n H k168_74 rfl
    obtain ⟨rv, m3, ⟨hz3, rfl⟩, h9_75⟩ := f_inv H k168_75 (by decide +kernel) (as := []) (b := 314) (r := []) (by rfl) (c_misDigit hr htx e2 e3 e4 e7 e8 e9 e10)
    replace H := h9_75
    rw [hse] at hz3
    rcases hz3 with ⟨hz3, rfl⟩ | ⟨hz3, rfl⟩
    · replace H := f_if_ne_t H k168_78 (by decide) (t := 86) (by decide)
      replace H := f_iconst H k168_86 (v := 0) (by decide)
      replace H := f_istore_n H k168_87 (l2 := [(2, .int 0), (1, .int _), (0, .ref 314)]) rfl
      replace H := f_iconst H k168_88 (v := 0) (by decide)
      replace H := f_istore_n H k168_89 (l2 := [(3, .int 0), (2, .int 0), (1, .int _), (0, .ref 314)]) rfl
      exact dig n 0 p 0 _ (by omega) hm1 (Or.inr ⟨rfl, rfl⟩) rfl rfl (Or.inr hz3) hz3 (f_up H (Nat.le_succ _))
    · replace H := f_if_ne_f H k168_78 rfl
      replace H := f_aload_n H k168_81 rfl
      obtain ⟨rv, m', ⟨rfl, rfl⟩, h9_82⟩ := f_inv H k168_82 (by decide +kernel) (as := []) (b := 314) (r := []) (by rfl) (c_mfails e5 e4)
      replace H := h9_82
      replace H := f_pop H k168_85
      replace H := f_iconst H k168_86 (v := 0) (by decide)
      replace H := f_istore_n H k168_87 (l2 := [(2, .int 0), (1, .int _), (0, .ref 314)]) rfl
      replace H := f_iconst H k168_88 (v := 0) (by decide)
      replace H := f_istore_n H k168_89 (l2 := [(3, .int 0), (2, .int 0), (1, .int _), (0, .ref 314)]) rfl
      replace H := f_aload_n H k168_90 rfl
      obtain ⟨rv, m4, ⟨hz4, rfl⟩, h9_91⟩ := f_inv H k168_91 (by decide +kernel) (as := []) (b := 314) (r := []) (by rfl) (c_misDigit (m := mI m3 314 11 (nI p)) hr htx (by rw [mI_ne (by omega)]; exact e2) (by rw [mI_ne (by omega)]; exact e3) (by rw [mI_ne (by omega)]; exact e4) (u := u) (by rw [← e7]; exact funext fun j => mI_ne (by omega)) e8 e9 e10)
      replace H := h9_91
      rw [hse] at hz4
      rcases hz4 with ⟨hz4, rfl⟩ | ⟨hz4, rfl⟩
      · exact absurd hz4 hz3
      replace H := f_if_eq_t H k168_94 rfl (t := 156) (by decide)
      replace H := f_iload_n H k168_156 rfl
      replace H := f_iret H k168_157
      refine ⟨_, _, H, ⟨_, rfl⟩, Or.inr ⟨p, mI_at, hp, Rno_bad ?_⟩⟩
      rw [hst, st_atom, if_neg hz3, if_neg hz, if_neg hnb]
  · have hpN : p < N := hlt (fun z => by rw [z] at c91; exact absurd c91 (by decide))
    have hnd : ¬ isDg s := by rw [c91]; decide
    replace H := f_aload_n H k168_37 rfl
    obtain ⟨rv, m3, hg, h9_38⟩ := f_inv H k168_38 (by decide +kernel) (as := []) (b := 314) (r := []) (by rfl) (c_goesIn hm1 hpN)
    replace H := h9_38
    rcases hg with ⟨hd6, rfl, hm3⟩ | ⟨hd6, rfl, hw⟩
    · have hstS : stP N (tt u) (.atom dp) h = .inl ([.sum (dp + 1), .tok 93], p + 1) := by rw [hst, st_atom, if_neg hnd, if_neg hz, if_pos ⟨c91, hd6⟩]
      replace H := f_if_ne_t H k168_41 (by decide) (t := 46) (by decide)
      replace H := f_aload_n H k168_46 rfl
      obtain ⟨rv, m4, ⟨⟨v, rfl⟩, ho⟩, h9_47⟩ := f_inv H k168_47 (by decide +kernel) (as := []) (b := 314) (r := []) (by rfl) (hs hd6 _ (p + 1) hm3)
      replace H := h9_47
      replace H := f_istore_n H k168_50 (l2 := [(2, .int _), (1, .int _), (0, .ref 314)]) rfl
      replace H := f_aload_n H k168_51 rfl
      replace H := f_bipush H k168_52 (v := 93) (by decide)
      rcases ho with ⟨h2, hm4, hle, hok⟩ | ⟨w, hw, hwN, hno⟩
      · obtain ⟨hr4, htx4, e24, e34, e44, e54, e64, e74, e84, e94, e104, e114⟩ := id hm4
        obtain ⟨rv, m5, ht, h9_54⟩ := f_inv H k168_54 (by decide +kernel) (as := [.int _]) (b := 314) (r := []) (by rfl) (c_mtakes (s := 93) hm4 (by decide))
        replace H := h9_54
        rcases ht with ⟨ha, rfl, rfl, hlt2⟩ | ⟨ha, rfl, hw⟩
        · replace H := f_if_ne_t H k168_57 (by decide) (t := 62) (by decide)
          have hge2 : h2 ≤ sk N (tt u) h2 := sk_ge
          have hm5 := mS_h hm4 (h2 := sk N (tt u) h2 + 1) (by omega)
          have e65 := hm5.2.2.2.2.2.2.1
          replace H := f_aload_n H k168_62 rfl
          replace H := f_dup H k168_63
          replace H := f_gi H k168_64 (ci := 12) (f := 12) (by decide +kernel) (by decide)
          replace H := f_iconst H k168_67 (v := 1) (by decide)
          replace H := f_isub H k168_68
          replace H := f_put_i H k168_69 (ci := 12) (f := 12) (by decide +kernel) (by decide)
          replace H := f_iload_n H k168_72 rfl
          rw [e65, nI_1s] at H
          replace H := f_iret H k168_73
          exact ⟨_, _, H, ⟨_, rfl⟩, Or.inl ⟨_, mS_d hm5 hdp, by omega, Rok_go hstS (Rok_app (is := [.sum (dp + 1)]) (js := [.tok 93]) hok (Rok_go (is := []) (by unfold stP; rw [st_tok, if_pos ha]) Rok_nil))⟩⟩
        · replace H := f_if_ne_f H k168_57 rfl
          replace H := f_iconst H k168_60 (v := 0) (by decide)
          replace H := f_iret H k168_61
          exact ⟨_, _, H, ⟨_, rfl⟩, Or.inr ⟨_, hw, sk_le e104, Rno_go hstS (Rno_app2 (is := [.sum (dp + 1)]) (js := [.tok 93]) hok (Rno_bad (by unfold stP; rw [st_tok, if_neg ha])))⟩⟩
      · obtain ⟨rv, m5, ⟨rfl, rfl⟩, h9_54⟩ := f_inv H k168_54 (by decide +kernel) (as := [.int _]) (b := 314) (r := []) (by rfl) (c_mtakes2 (s := 93) (by rw [hw]; exact nI_n1 hwN hN))
        replace H := h9_54
        replace H := f_if_ne_f H k168_57 rfl
        replace H := f_iconst H k168_60 (v := 0) (by decide)
        replace H := f_iret H k168_61
        exact ⟨_, _, H, ⟨_, rfl⟩, Or.inr ⟨w, hw, hwN, Rno_go hstS (Rno_app1 (js := [.tok 93]) hno)⟩⟩
    · replace H := f_if_ne_f H k168_41 rfl
      replace H := f_iconst H k168_44 (v := 0) (by decide)
      replace H := f_iret H k168_45
      refine ⟨_, _, H, ⟨_, rfl⟩, Or.inr ⟨p, hw, hp, Rno_bad ?_⟩⟩
      rw [hst, st_atom, if_neg hnd, if_neg hz, if_neg (fun z => hd6 z.2)]
theorem k167_0 : lkc 0 (kcode 167) = some (.ldc2_w 135) := by decide +kernel
theorem k167_3 : lkc 3 (kcode 167) = some (.ldc2_w 137) := by decide +kernel
theorem k167_6 : lkc 6 (kcode 167) = some (.lload_n 0) := by decide +kernel
theorem k167_7 : lkc 7 (kcode 167) = some (.invokestatic 139) := by decide +kernel
theorem k167_10 : lkc 10 (kcode 167) = some (.invokestatic 145) := by decide +kernel
theorem k167_13 : lkc 13 (kcode 167) = some (.l2i) := by decide +kernel
theorem k167_14 : lkc 14 (kcode 167) = some (.ireturn) := by decide +kernel
theorem k169_0 : lkc 0 (kcode 169) = some (.aload_n 0) := by decide +kernel
theorem k169_1 : lkc 1 (kcode 169) = some (.invokevirtual 165) := by decide +kernel
theorem k169_4 : lkc 4 (kcode 169) = some (.istore_n 1) := by decide +kernel
theorem k169_5 : lkc 5 (kcode 169) = some (.aload_n 0) := by decide +kernel
theorem k169_6 : lkc 6 (kcode 169) = some (.getfield 122) := by decide +kernel
theorem k169_9 : lkc 9 (kcode 169) = some (.iconst (-1)) := by decide +kernel
theorem k169_10 : lkc 10 (kcode 169) = some (.if_icmp .ne 84) := by decide +kernel
theorem k169_13 : lkc 13 (kcode 169) = some (.aload_n 0) := by decide +kernel
theorem k169_14 : lkc 14 (kcode 169) = some (.invokevirtual 132) := by decide +kernel
theorem k169_17 : lkc 17 (kcode 169) = some (.bipush 42) := by decide +kernel
theorem k169_19 : lkc 19 (kcode 169) = some (.if_icmp .eq 12) := by decide +kernel
theorem k169_22 : lkc 22 (kcode 169) = some (.aload_n 0) := by decide +kernel
theorem k169_23 : lkc 23 (kcode 169) = some (.invokevirtual 132) := by decide +kernel
theorem k169_26 : lkc 26 (kcode 169) = some (.bipush 47) := by decide +kernel
theorem k169_28 : lkc 28 (kcode 169) = some (.if_icmp .ne 66) := by decide +kernel
theorem k169_31 : lkc 31 (kcode 169) = some (.aload_n 0) := by decide +kernel
theorem k169_32 : lkc 32 (kcode 169) = some (.invokevirtual 132) := by decide +kernel
theorem k169_35 : lkc 35 (kcode 169) = some (.bipush 42) := by decide +kernel
theorem k169_37 : lkc 37 (kcode 169) = some (.if_icmp .ne 7) := by decide +kernel
theorem k169_40 : lkc 40 (kcode 169) = some (.iconst 1) := by decide +kernel
theorem k169_41 : lkc 41 (kcode 169) = some (.goto 4) := by decide +kernel
theorem k169_44 : lkc 44 (kcode 169) = some (.iconst 0) := by decide +kernel
theorem k169_45 : lkc 45 (kcode 169) = some (.istore_n 2) := by decide +kernel
theorem k169_46 : lkc 46 (kcode 169) = some (.aload_n 0) := by decide +kernel
theorem k169_47 : lkc 47 (kcode 169) = some (.dup) := by decide +kernel
theorem k169_48 : lkc 48 (kcode 169) = some (.getfield 113) := by decide +kernel
theorem k169_51 : lkc 51 (kcode 169) = some (.iconst 1) := by decide +kernel
theorem k169_52 : lkc 52 (kcode 169) = some (.iadd) := by decide +kernel
theorem k169_53 : lkc 53 (kcode 169) = some (.putfield 113) := by decide +kernel
theorem k169_56 : lkc 56 (kcode 169) = some (.aload_n 0) := by decide +kernel
theorem k169_57 : lkc 57 (kcode 169) = some (.invokevirtual 165) := by decide +kernel
theorem k169_60 : lkc 60 (kcode 169) = some (.i2l) := by decide +kernel
theorem k169_61 : lkc 61 (kcode 169) = some (.lstore_n 3) := by decide +kernel
theorem k169_62 : lkc 62 (kcode 169) = some (.iload_n 2) := by decide +kernel
theorem k169_63 : lkc 63 (kcode 169) = some (.ifCond .eq 10) := by decide +kernel
theorem k169_66 : lkc 66 (kcode 169) = some (.iload_n 1) := by decide +kernel
theorem k169_67 : lkc 67 (kcode 169) = some (.i2l) := by decide +kernel
theorem k169_68 : lkc 68 (kcode 169) = some (.lload_n 3) := by decide +kernel
theorem k169_69 : lkc 69 (kcode 169) = some (.lmul) := by decide +kernel
theorem k169_70 : lkc 70 (kcode 169) = some (.goto 17) := by decide +kernel
theorem k169_73 : lkc 73 (kcode 169) = some (.lload_n 3) := by decide +kernel
theorem k169_74 : lkc 74 (kcode 169) = some (.lconst 0) := by decide +kernel
theorem k169_75 : lkc 75 (kcode 169) = some (.lcmp) := by decide +kernel
theorem k169_76 : lkc 76 (kcode 169) = some (.ifCond .ne 7) := by decide +kernel
theorem k169_79 : lkc 79 (kcode 169) = some (.lconst 0) := by decide +kernel
theorem k169_80 : lkc 80 (kcode 169) = some (.goto 7) := by decide +kernel
theorem k169_83 : lkc 83 (kcode 169) = some (.iload_n 1) := by decide +kernel
theorem k169_84 : lkc 84 (kcode 169) = some (.i2l) := by decide +kernel
theorem k169_85 : lkc 85 (kcode 169) = some (.lload_n 3) := by decide +kernel
theorem k169_86 : lkc 86 (kcode 169) = some (.ldiv) := by decide +kernel
theorem k169_87 : lkc 87 (kcode 169) = some (.invokestatic 168) := by decide +kernel
theorem k169_90 : lkc 90 (kcode 169) = some (.istore_n 1) := by decide +kernel
theorem k169_91 : lkc 91 (kcode 169) = some (.goto (-86)) := by decide +kernel
theorem k169_94 : lkc 94 (kcode 169) = some (.iload_n 1) := by decide +kernel
theorem k169_95 : lkc 95 (kcode 169) = some (.ireturn) := by decide +kernel
theorem k170_0 : lkc 0 (kcode 170) = some (.aload_n 0) := by decide +kernel
theorem k170_1 : lkc 1 (kcode 170) = some (.invokevirtual 172) := by decide +kernel
theorem k170_4 : lkc 4 (kcode 170) = some (.istore_n 1) := by decide +kernel
theorem k170_5 : lkc 5 (kcode 170) = some (.aload_n 0) := by decide +kernel
theorem k170_6 : lkc 6 (kcode 170) = some (.getfield 122) := by decide +kernel
theorem k170_9 : lkc 9 (kcode 170) = some (.iconst (-1)) := by decide +kernel
theorem k170_10 : lkc 10 (kcode 170) = some (.if_icmp .ne 74) := by decide +kernel
theorem k170_13 : lkc 13 (kcode 170) = some (.aload_n 0) := by decide +kernel
theorem k170_14 : lkc 14 (kcode 170) = some (.invokevirtual 132) := by decide +kernel
theorem k170_17 : lkc 17 (kcode 170) = some (.bipush 43) := by decide +kernel
theorem k170_19 : lkc 19 (kcode 170) = some (.if_icmp .eq 12) := by decide +kernel
theorem k170_22 : lkc 22 (kcode 170) = some (.aload_n 0) := by decide +kernel
theorem k170_23 : lkc 23 (kcode 170) = some (.invokevirtual 132) := by decide +kernel
theorem k170_26 : lkc 26 (kcode 170) = some (.bipush 45) := by decide +kernel
theorem k170_28 : lkc 28 (kcode 170) = some (.if_icmp .ne 56) := by decide +kernel
theorem k170_31 : lkc 31 (kcode 170) = some (.aload_n 0) := by decide +kernel
theorem k170_32 : lkc 32 (kcode 170) = some (.invokevirtual 132) := by decide +kernel
theorem k170_35 : lkc 35 (kcode 170) = some (.bipush 43) := by decide +kernel
theorem k170_37 : lkc 37 (kcode 170) = some (.if_icmp .ne 7) := by decide +kernel
theorem k170_40 : lkc 40 (kcode 170) = some (.iconst 1) := by decide +kernel
theorem k170_41 : lkc 41 (kcode 170) = some (.goto 4) := by decide +kernel
theorem k170_44 : lkc 44 (kcode 170) = some (.iconst 0) := by decide +kernel
theorem k170_45 : lkc 45 (kcode 170) = some (.istore_n 2) := by decide +kernel
theorem k170_46 : lkc 46 (kcode 170) = some (.aload_n 0) := by decide +kernel
theorem k170_47 : lkc 47 (kcode 170) = some (.dup) := by decide +kernel
theorem k170_48 : lkc 48 (kcode 170) = some (.getfield 113) := by decide +kernel
theorem k170_51 : lkc 51 (kcode 170) = some (.iconst 1) := by decide +kernel
theorem k170_52 : lkc 52 (kcode 170) = some (.iadd) := by decide +kernel
theorem k170_53 : lkc 53 (kcode 170) = some (.putfield 113) := by decide +kernel
theorem k170_56 : lkc 56 (kcode 170) = some (.aload_n 0) := by decide +kernel
theorem k170_57 : lkc 57 (kcode 170) = some (.invokevirtual 172) := by decide +kernel
theorem k170_60 : lkc 60 (kcode 170) = some (.i2l) := by decide +kernel
theorem k170_61 : lkc 61 (kcode 170) = some (.lstore_n 3) := by decide +kernel
theorem k170_62 : lkc 62 (kcode 170) = some (.iload_n 2) := by decide +kernel
theorem k170_63 : lkc 63 (kcode 170) = some (.ifCond .eq 10) := by decide +kernel
theorem k170_66 : lkc 66 (kcode 170) = some (.iload_n 1) := by decide +kernel
theorem k170_67 : lkc 67 (kcode 170) = some (.i2l) := by decide +kernel
theorem k170_68 : lkc 68 (kcode 170) = some (.lload_n 3) := by decide +kernel
theorem k170_69 : lkc 69 (kcode 170) = some (.ladd) := by decide +kernel
theorem k170_70 : lkc 70 (kcode 170) = some (.goto 7) := by decide +kernel
theorem k170_73 : lkc 73 (kcode 170) = some (.iload_n 1) := by decide +kernel
theorem k170_74 : lkc 74 (kcode 170) = some (.i2l) := by decide +kernel
theorem k170_75 : lkc 75 (kcode 170) = some (.lload_n 3) := by decide +kernel
theorem k170_76 : lkc 76 (kcode 170) = some (.lsub) := by decide +kernel
theorem k170_77 : lkc 77 (kcode 170) = some (.invokestatic 168) := by decide +kernel
theorem k170_80 : lkc 80 (kcode 170) = some (.istore_n 1) := by decide +kernel
theorem k170_81 : lkc 81 (kcode 170) = some (.goto (-76)) := by decide +kernel
theorem k170_84 : lkc 84 (kcode 170) = some (.iload_n 1) := by decide +kernel
theorem k170_85 : lkc 85 (kcode 170) = some (.ireturn) := by decide +kernel
theorem k268_0 : lkc 0 (kcode 268) = some (.lload_n 0) := by decide +kernel
theorem k268_1 : lkc 1 (kcode 268) = some (.lload_n 2) := by decide +kernel
theorem k268_2 : lkc 2 (kcode 268) = some (.lcmp) := by decide +kernel
theorem k268_3 : lkc 3 (kcode 268) = some (.ifCond .lt 7) := by decide +kernel
theorem k268_6 : lkc 6 (kcode 268) = some (.lload_n 0) := by decide +kernel
theorem k268_7 : lkc 7 (kcode 268) = some (.goto 4) := by decide +kernel
theorem k268_10 : lkc 10 (kcode 268) = some (.lload_n 2) := by decide +kernel
theorem k268_11 : lkc 11 (kcode 268) = some (.lreturn) := by decide +kernel
theorem k270_0 : lkc 0 (kcode 270) = some (.lload_n 0) := by decide +kernel
theorem k270_1 : lkc 1 (kcode 270) = some (.lload_n 2) := by decide +kernel
theorem k270_2 : lkc 2 (kcode 270) = some (.lcmp) := by decide +kernel
theorem k270_3 : lkc 3 (kcode 270) = some (.ifCond .gt 7) := by decide +kernel
theorem k270_6 : lkc 6 (kcode 270) = some (.lload_n 0) := by decide +kernel
theorem k270_7 : lkc 7 (kcode 270) = some (.goto 4) := by decide +kernel
theorem k270_10 : lkc 10 (kcode 270) = some (.lload_n 2) := by decide +kernel
theorem k270_11 : lkc 11 (kcode 270) = some (.lreturn) := by decide +kernel
/-! forward: the reference's reader of a law's text: terms and sums -/
theorem c_min64 {m : xM} {x y : Int64} : fC 270 [.long x, .long y] m (fun rv m' => (∃ v, rv = some (.long v)) ∧ m = m') := by
  refine fC_of (by decide) (fun d n P H => ?_)
  replace H := f_lload_n H k270_0 rfl
  replace H := f_lload_n H k270_1 rfl
  replace H := f_lcmp H k270_2
  have Hbr := f_if_gt H k270_3 (t := 10) (by decide)
  clear H
  rcases Hbr with ⟨c, H⟩ | ⟨c, H⟩
  · replace H := f_lload_n H k270_10 rfl
    replace H := f_lret H k270_11
    exact ⟨_, _, H, ⟨_, rfl⟩, rfl⟩
  · replace H := f_lload_n H k270_6 rfl
    replace H := f_goto H k270_7 (t := 11) (by decide)
    replace H := f_lret H k270_11
    exact ⟨_, _, H, ⟨_, rfl⟩, rfl⟩
theorem c_max64 {m : xM} {x y : Int64} : fC 268 [.long x, .long y] m (fun rv m' => (∃ v, rv = some (.long v)) ∧ m = m') := by
  refine fC_of (by decide) (fun d n P H => ?_)
  replace H := f_lload_n H k268_0 rfl
  replace H := f_lload_n H k268_1 rfl
  replace H := f_lcmp H k268_2
  have Hbr := f_if_lt H k268_3 (t := 10) (by decide)
  clear H
  rcases Hbr with ⟨c, H⟩ | ⟨c, H⟩
  · replace H := f_lload_n H k268_10 rfl
    replace H := f_lret H k268_11
    exact ⟨_, _, H, ⟨_, rfl⟩, rfl⟩
  · replace H := f_lload_n H k268_6 rfl
    replace H := f_goto H k268_7 (t := 11) (by decide)
    replace H := f_lret H k268_11
    exact ⟨_, _, H, ⟨_, rfl⟩, rfl⟩
theorem c_within {m : xM} {x : Int64} : fC 167 [.long x] m (fun rv m' => (∃ v, rv = some (.int v)) ∧ m = m') := by
  refine fC_of (by decide) (fun d n P H => ?_)
  replace H := f_ldc2 H k167_0 (v := -1000000) (by decide +kernel)
  replace H := f_ldc2 H k167_3 (v := 1000000) (by decide +kernel)
  replace H := f_lload_n H k167_6 rfl
  obtain ⟨rv, m', ⟨⟨v1, rfl⟩, rfl⟩, h9_7⟩ := f_ins H k167_7 (by decide +kernel) (as := [.long _, .long _]) (r := [.long _]) (by rfl) (c_min64)
  replace H := h9_7
  obtain ⟨rv, m', ⟨⟨v2, rfl⟩, rfl⟩, h9_10⟩ := f_ins H k167_10 (by decide +kernel) (as := [.long _, .long _]) (r := []) (by rfl) (c_max64)
  replace H := h9_10
  replace H := f_l2i H k167_13
  replace H := f_iret H k167_14
  exact ⟨_, _, H, ⟨_, rfl⟩, rfl⟩
theorem st_termL2 {N : Nat} {t : Nat → Int32} {h p d : Nat} {s : Int32} : stI N t h p s (.termL d) = if s = 42 ∨ s = 47 then .inl ([.atom d, .termL d], p + 1) else .inl ([], p) := rfl
set_option maxHeartbeats 4000000 in
theorem c_mterm {N h dp : Nat} {u : Nat → Int32} (hat : ∀ m h, mS m N h dp u → fC 168 [.ref 314] m (fun rv m' => (∃ v, rv = some (.int v)) ∧ mO N u h dp [.atom dp] m')) {m : xM} (hm : mS m N h dp u) : fC 169 [.ref 314] m (fun rv m' => (∃ v, rv = some (.int v)) ∧ mO N u h dp [.term dp] m') := by
  refine fC_of (by decide) (fun d n P H => ?_)
  have hN : N ≤ 240 := hm.2.2.2.2.2.2.2.2.2.1
  have ar : ∀ n m4 a v b w, xF 169 (xw d) P n 60 [(2, .int b), (1, .int v), (3, .long w), (0, .ref 314)] [.int a] m4 → ∃ v' w', xF 169 (xw d) P n 5 [(1, .int v'), (3, .long w'), (2, .int b), (0, .ref 314)] [] m4 := by
    intro n m4 a v b w H
    replace H := f_i2l H k169_60
    replace H := f_lstore_n H k169_61 (l2 := [(3, .long _), (2, .int b), (1, .int v), (0, .ref 314)]) rfl
    replace H := f_iload_n H k169_62 rfl
    have Hbr := f_if_eq H k169_63 (t := 73) (by decide)
    clear H
    rcases Hbr with ⟨c, H⟩ | ⟨c, H⟩
    · replace H := f_lload_n H k169_73 rfl
      replace H := f_lconst H k169_74 (v := 0) (by decide)
      replace H := f_lcmp H k169_75
      have Hbr := f_if_ne H k169_76 (t := 83) (by decide)
      clear H
      rcases Hbr with ⟨c, H⟩ | ⟨c, H⟩
      · replace H := f_iload_n H k169_83 rfl
        replace H := f_i2l H k169_84
        replace H := f_lload_n H k169_85 rfl
        replace H := f_ldiv H k169_86
        obtain ⟨rv, m', ⟨⟨v2, rfl⟩, rfl⟩, h9_87⟩ := f_ins H k169_87 (by decide +kernel) (as := [.long _]) (r := []) (by rfl) (c_within)
        replace H := h9_87
        replace H := f_istore_n H k169_90 (l2 := [(1, .int _), (3, .long _), (2, .int b), (0, .ref 314)]) rfl
        replace H := f_goto H k169_91 (t := 5) (by decide)
        exact ⟨_, _, H⟩
      · replace H := f_lconst H k169_79 (v := 0) (by decide)
        replace H := f_goto H k169_80 (t := 87) (by decide)
        obtain ⟨rv, m', ⟨⟨v2, rfl⟩, rfl⟩, h9_87⟩ := f_ins H k169_87 (by decide +kernel) (as := [.long _]) (r := []) (by rfl) (c_within)
        replace H := h9_87
        replace H := f_istore_n H k169_90 (l2 := [(1, .int _), (3, .long _), (2, .int b), (0, .ref 314)]) rfl
        replace H := f_goto H k169_91 (t := 5) (by decide)
        exact ⟨_, _, H⟩
    · replace H := f_iload_n H k169_66 rfl
      replace H := f_i2l H k169_67
      replace H := f_lload_n H k169_68 rfl
      replace H := f_lmul H k169_69
      replace H := f_goto H k169_70 (t := 87) (by decide)
      obtain ⟨rv, m', ⟨⟨v2, rfl⟩, rfl⟩, h9_87⟩ := f_ins H k169_87 (by decide +kernel) (as := [.long _]) (r := []) (by rfl) (c_within)
      replace H := h9_87
      replace H := f_istore_n H k169_90 (l2 := [(1, .int _), (3, .long _), (2, .int b), (0, .ref 314)]) rfl
      replace H := f_goto H k169_91 (t := 5) (by decide)
      exact ⟨_, _, H⟩
  have fin : ∀ n m4 v w b, xF 169 (xw d) P n 94 [(1, .int v), (3, .long w), (2, .int b), (0, .ref 314)] [] m4 → ∃ rv, P rv m4 ∧ ∃ v, rv = some (.int v) := by
    intro n m4 v w b H
    replace H := f_iload_n H k169_94 rfl
    replace H := f_iret H k169_95
    exact ⟨_, H, _, rfl⟩
  have out : ∀ n m4 v w b, m4.1 314 11 ≠ -1 → xF 169 (xw d) P n 5 [(1, .int v), (3, .long w), (2, .int b), (0, .ref 314)] [] m4 → ∃ rv, P rv m4 ∧ ∃ v, rv = some (.int v) := by
    intro n m4 v w b hw H
    replace H := f_aload_n H k169_5 rfl
    replace H := f_gi H k169_6 (ci := 12) (f := 11) (by decide +kernel) (by decide)
    replace H := f_iconst H k169_9 (v := -1) (by decide)
    replace H := f_icmp_ne_t H k169_10 hw (t := 94) (by decide)
    exact fin _ _ _ _ _ H
  have key : ∀ n h2 m2 v w b, mS m2 N h2 dp u → xF 169 (xw d) P (n + 1) 5 [(1, .int v), (3, .long w), (2, .int b), (0, .ref 314)] [] m2 → ∃ rv m', P rv m' ∧ (∃ v, rv = some (.int v)) ∧ mO N u h2 dp [.termL dp] m' := by
    intro n
    induction n with
    | zero => exact fun h2 m2 v w b _ H => (xF_0 (f1_aload_n H k169_5 rfl)).elim
    | succ n ih =>
      intro h2 m2 v w b hm2 H
      have hh : h2 ≤ N := hm2.2.2.2.2.2.2.2.2.2.2.1
      have hp : sk N (tt u) h2 ≤ N := sk_le hh
      have hge : h2 ≤ sk N (tt u) h2 := sk_ge
      have hsk : sk N (tt u) (sk N (tt u) h2) = sk N (tt u) h2 := sk_sk hh
      have hst : ∀ i, stP N (tt u) i h2 = stI N (tt u) h2 (sk N (tt u) h2) (atv N (tt u) (sk N (tt u) h2)) i := fun i => rfl
      replace H := f1_aload_n H k169_5 rfl
      replace H := f_gi H k169_6 (ci := 12) (f := 11) (by decide +kernel) (by decide)
      replace H := f_iconst H k169_9 (v := -1) (by decide)
      replace H := f_icmp_ne_f H k169_10 hm2.2.2.2.2.2.1
      replace H := f_aload_n H k169_13 rfl
      obtain ⟨rv, m3, ⟨rfl, e9⟩, h9_14⟩ := f_inv H k169_14 (by decide +kernel) (as := []) (b := 314) (r := []) (by rfl) (c_look hm2)
      replace H := h9_14
      have hm3 : mS m3 N (sk N (tt u) h2) dp u := by rw [e9]; exact mS_h hm2 hp
      clear e9
      generalize sk N (tt u) h2 = p at *
      have hlt : atv N (tt u) p ≠ -1 → p < N := fun z => by
        by_cases h9 : p < N
        · exact h9
        · exact absurd (atv_e h9) z
      generalize hse : atv N (tt u) p = s at *
      have e3 : m3 = mI m3 314 10 (nI p) := (mI_self hm3.2.2.2.2.1).symm
      have go : (s = 42 ∨ s = 47) → xF 169 (xw d) P (n + 1) 31 [(1, .int v), (3, .long w), (2, .int b), (0, .ref 314)] [] m3 → ∃ rv m', P rv m' ∧ (∃ v, rv = some (.int v)) ∧ mO N u h2 dp [.termL dp] m' := by
        intro hs H
        have hpN : p < N := hlt (fun z => by rw [z] at hs; exact absurd hs (by decide))
        have hq : stP N (tt u) (.termL dp) h2 = .inl ([.atom dp, .termL dp], p + 1) := by rw [hst, st_termL2, if_pos hs]
        have go2 : ∀ b2, xF 169 (xw d) P (n + 1) 45 [(1, .int v), (3, .long w), (2, .int b), (0, .ref 314)] [.int b2] m3 → ∃ rv m', P rv m' ∧ (∃ v, rv = some (.int v)) ∧ mO N u h2 dp [.termL dp] m' := by
          intro b2 H
          replace H := f_istore_n H k169_45 (l2 := [(2, .int b2), (1, .int v), (3, .long w), (0, .ref 314)]) rfl
          replace H := f_aload_n H k169_46 rfl
          replace H := f_dup H k169_47
          replace H := f_gi H k169_48 (ci := 12) (f := 10) (by decide +kernel) (by decide)
          replace H := f_iconst H k169_51 (v := 1) (by decide)
          replace H := f_iadd H k169_52
          replace H := f_put_i H k169_53 (ci := 12) (f := 10) (by decide +kernel) (by decide)
          replace H := f_aload_n H k169_56 rfl
          rw [hm3.2.2.2.2.1, nI_s] at H
          obtain ⟨rv, m4, ⟨⟨a, rfl⟩, ho⟩, h9_57⟩ := f_inv H k169_57 (by decide +kernel) (as := []) (b := 314) (r := []) (by rfl) (hat _ (p + 1) (mS_h hm3 hpN))
          replace H := h9_57
          obtain ⟨v2, w2, H⟩ := ar _ _ _ _ _ _ H
          rcases ho with ⟨h3, hm4, hle, hok⟩ | ⟨x, hx, hxN, hno⟩
          · obtain ⟨rv, m6, hP, hv, ho⟩ := ih h3 m4 _ _ _ hm4 H
            refine ⟨rv, m6, hP, hv, ?_⟩
            rcases ho with ⟨h4, q4, q5, q6⟩ | ⟨x, q4, q5, q6⟩
            · exact Or.inl ⟨h4, q4, by omega, Rok_go hq (Rok_app (is := [.atom dp]) (js := [.termL dp]) hok q6)⟩
            · exact Or.inr ⟨x, q4, q5, Rno_go hq (Rno_app2 (is := [.atom dp]) (js := [.termL dp]) hok q6)⟩
          · obtain ⟨rv, hP, hv⟩ := out _ _ _ _ _ (by rw [hx]; exact nI_n1 hxN hN) H
            exact ⟨rv, m4, hP, hv, Or.inr ⟨x, hx, hxN, Rno_go hq (Rno_app1 (js := [.termL dp]) hno)⟩⟩
        replace H := f_aload_n H k169_31 rfl
        obtain ⟨rv, m5, ⟨rfl, rfl⟩, h9_32⟩ := f_inv H k169_32 (by decide +kernel) (as := []) (b := 314) (r := []) (by rfl) (c_look hm3)
        replace H := h9_32
        rw [hsk, ← e3] at H
        replace H := f_bipush H k169_35 (v := 42) (by decide)
        have Hbr := f_icmp_ne H k169_37 (t := 44) (by decide)
        clear H
        rcases Hbr with ⟨c, H⟩ | ⟨c, H⟩
        · replace H := f_iconst H k169_44 (v := 0) (by decide)
          exact go2 _ H
        · replace H := f_iconst H k169_40 (v := 1) (by decide)
          replace H := f_goto H k169_41 (t := 45) (by decide)
          exact go2 _ H
      replace H := f_bipush H k169_17 (v := 42) (by decide)
      have Hbr := f_icmp_eq H k169_19 (t := 31) (by decide)
      clear H
      rcases Hbr with ⟨c1, H⟩ | ⟨c1, H⟩
      · exact go (Or.inl c1) H
      · replace H := f_aload_n H k169_22 rfl
        obtain ⟨rv, m5, ⟨rfl, rfl⟩, h9_23⟩ := f_inv H k169_23 (by decide +kernel) (as := []) (b := 314) (r := []) (by rfl) (c_look hm3)
        replace H := h9_23
        rw [hsk, ← e3, hse] at H
        replace H := f_bipush H k169_26 (v := 47) (by decide)
        have Hbr := f_icmp_ne H k169_28 (t := 94) (by decide)
        clear H
        rcases Hbr with ⟨c2, H⟩ | ⟨c2, H⟩
        · obtain ⟨rv, hP, hv⟩ := fin _ _ _ _ _ H
          refine ⟨rv, m3, hP, hv, Or.inl ⟨p, hm3, hge, Rok_go (is := []) ?_ Rok_nil⟩⟩
          rw [hst, st_termL2, if_neg (fun z => z.elim c1 c2)]
        · exact go (Or.inr c2) H
  replace H := f_aload_n H k169_0 rfl
  obtain ⟨rv, m4, ⟨⟨a, rfl⟩, ho⟩, h9_1⟩ := f_inv H k169_1 (by decide +kernel) (as := []) (b := 314) (r := []) (by rfl) (hat _ h hm)
  replace H := h9_1
  replace H := f_istore_n H k169_4 (l2 := [(1, .int _), (0, .ref 314)]) rfl
  replace H := f_ext H (l' := [(1, .int a), (3, .long 0), (2, .int 0), (0, .ref 314)]) (lE_cons rfl (lE_cons rfl (lE_nil))) rfl rfl
  have hq : stP N (tt u) (.term dp) h = .inl ([.atom dp, .termL dp], h) := rfl
  rcases ho with ⟨h3, hm4, hle, hok⟩ | ⟨x, hx, hxN, hno⟩
  · obtain ⟨rv, m6, hP, hv, ho⟩ := key n h3 m4 _ _ _ hm4 (f_up H (Nat.le_succ _))
    refine ⟨rv, m6, hP, hv, ?_⟩
    rcases ho with ⟨h4, q4, q5, q6⟩ | ⟨x, q4, q5, q6⟩
    · exact Or.inl ⟨h4, q4, by omega, Rok_go hq (Rok_app (is := [.atom dp]) (js := [.termL dp]) hok q6)⟩
    · exact Or.inr ⟨x, q4, q5, Rno_go hq (Rno_app2 (is := [.atom dp]) (js := [.termL dp]) hok q6)⟩
  · obtain ⟨rv, hP, hv⟩ := out _ _ _ _ _ (by rw [hx]; exact nI_n1 hxN hN) H
    exact ⟨rv, m4, hP, hv, Or.inr ⟨x, hx, hxN, Rno_go hq (Rno_app1 (js := [.termL dp]) hno)⟩⟩
theorem st_sumL2 {N : Nat} {t : Nat → Int32} {h p d : Nat} {s : Int32} : stI N t h p s (.sumL d) = if s = 43 ∨ s = 45 then .inl ([.term d, .sumL d], p + 1) else .inl ([], p) := rfl
set_option maxHeartbeats 4000000 in
theorem c_msum {N h dp : Nat} {u : Nat → Int32} (hat : ∀ m h, mS m N h dp u → fC 169 [.ref 314] m (fun rv m' => (∃ v, rv = some (.int v)) ∧ mO N u h dp [.term dp] m')) {m : xM} (hm : mS m N h dp u) : fC 170 [.ref 314] m (fun rv m' => (∃ v, rv = some (.int v)) ∧ mO N u h dp [.sum dp] m') := by
  refine fC_of (by decide) (fun d n P H => ?_)
  have hN : N ≤ 240 := hm.2.2.2.2.2.2.2.2.2.1
  have ar : ∀ n m4 a v b w, xF 170 (xw d) P n 60 [(2, .int b), (1, .int v), (3, .long w), (0, .ref 314)] [.int a] m4 → ∃ v' w', xF 170 (xw d) P n 5 [(1, .int v'), (3, .long w'), (2, .int b), (0, .ref 314)] [] m4 := by
    intro n m4 a v b w H
    replace H := f_i2l H k170_60
    replace H := f_lstore_n H k170_61 (l2 := [(3, .long _), (2, .int b), (1, .int v), (0, .ref 314)]) rfl
    replace H := f_iload_n H k170_62 rfl
    have Hbr := f_if_eq H k170_63 (t := 73) (by decide)
    clear H
    rcases Hbr with ⟨c, H⟩ | ⟨c, H⟩
    · replace H := f_iload_n H k170_73 rfl
      replace H := f_i2l H k170_74
      replace H := f_lload_n H k170_75 rfl
      replace H := f_lsub H k170_76
      obtain ⟨rv, m', ⟨⟨v2, rfl⟩, rfl⟩, h9_77⟩ := f_ins H k170_77 (by decide +kernel) (as := [.long _]) (r := []) (by rfl) (c_within)
      replace H := h9_77
      replace H := f_istore_n H k170_80 (l2 := [(1, .int _), (3, .long _), (2, .int b), (0, .ref 314)]) rfl
      replace H := f_goto H k170_81 (t := 5) (by decide)
      exact ⟨_, _, H⟩
    · replace H := f_iload_n H k170_66 rfl
      replace H := f_i2l H k170_67
      replace H := f_lload_n H k170_68 rfl
      replace H := f_ladd H k170_69
      replace H := f_goto H k170_70 (t := 77) (by decide)
      obtain ⟨rv, m', ⟨⟨v2, rfl⟩, rfl⟩, h9_77⟩ := f_ins H k170_77 (by decide +kernel) (as := [.long _]) (r := []) (by rfl) (c_within)
      replace H := h9_77
      replace H := f_istore_n H k170_80 (l2 := [(1, .int _), (3, .long _), (2, .int b), (0, .ref 314)]) rfl
      replace H := f_goto H k170_81 (t := 5) (by decide)
      exact ⟨_, _, H⟩
  have fin : ∀ n m4 v w b, xF 170 (xw d) P n 84 [(1, .int v), (3, .long w), (2, .int b), (0, .ref 314)] [] m4 → ∃ rv, P rv m4 ∧ ∃ v, rv = some (.int v) := by
    intro n m4 v w b H
    replace H := f_iload_n H k170_84 rfl
    replace H := f_iret H k170_85
    exact ⟨_, H, _, rfl⟩
  have out : ∀ n m4 v w b, m4.1 314 11 ≠ -1 → xF 170 (xw d) P n 5 [(1, .int v), (3, .long w), (2, .int b), (0, .ref 314)] [] m4 → ∃ rv, P rv m4 ∧ ∃ v, rv = some (.int v) := by
    intro n m4 v w b hw H
    replace H := f_aload_n H k170_5 rfl
    replace H := f_gi H k170_6 (ci := 12) (f := 11) (by decide +kernel) (by decide)
    replace H := f_iconst H k170_9 (v := -1) (by decide)
    replace H := f_icmp_ne_t H k170_10 hw (t := 84) (by decide)
    exact fin _ _ _ _ _ H
  have key : ∀ n h2 m2 v w b, mS m2 N h2 dp u → xF 170 (xw d) P (n + 1) 5 [(1, .int v), (3, .long w), (2, .int b), (0, .ref 314)] [] m2 → ∃ rv m', P rv m' ∧ (∃ v, rv = some (.int v)) ∧ mO N u h2 dp [.sumL dp] m' := by
    intro n
    induction n with
    | zero => exact fun h2 m2 v w b _ H => (xF_0 (f1_aload_n H k170_5 rfl)).elim
    | succ n ih =>
      intro h2 m2 v w b hm2 H
      have hh : h2 ≤ N := hm2.2.2.2.2.2.2.2.2.2.2.1
      have hp : sk N (tt u) h2 ≤ N := sk_le hh
      have hge : h2 ≤ sk N (tt u) h2 := sk_ge
      have hsk : sk N (tt u) (sk N (tt u) h2) = sk N (tt u) h2 := sk_sk hh
      have hst : ∀ i, stP N (tt u) i h2 = stI N (tt u) h2 (sk N (tt u) h2) (atv N (tt u) (sk N (tt u) h2)) i := fun i => rfl
      replace H := f1_aload_n H k170_5 rfl
      replace H := f_gi H k170_6 (ci := 12) (f := 11) (by decide +kernel) (by decide)
      replace H := f_iconst H k170_9 (v := -1) (by decide)
      replace H := f_icmp_ne_f H k170_10 hm2.2.2.2.2.2.1
      replace H := f_aload_n H k170_13 rfl
      obtain ⟨rv, m3, ⟨rfl, e9⟩, h9_14⟩ := f_inv H k170_14 (by decide +kernel) (as := []) (b := 314) (r := []) (by rfl) (c_look hm2)
      replace H := h9_14
      have hm3 : mS m3 N (sk N (tt u) h2) dp u := by rw [e9]; exact mS_h hm2 hp
      clear e9
      generalize sk N (tt u) h2 = p at *
      have hlt : atv N (tt u) p ≠ -1 → p < N := fun z => by
        by_cases h9 : p < N
        · exact h9
        · exact absurd (atv_e h9) z
      generalize hse : atv N (tt u) p = s at *
      have e3 : m3 = mI m3 314 10 (nI p) := (mI_self hm3.2.2.2.2.1).symm
      have go : (s = 43 ∨ s = 45) → xF 170 (xw d) P (n + 1) 31 [(1, .int v), (3, .long w), (2, .int b), (0, .ref 314)] [] m3 → ∃ rv m', P rv m' ∧ (∃ v, rv = some (.int v)) ∧ mO N u h2 dp [.sumL dp] m' := by
        intro hs H
        have hpN : p < N := hlt (fun z => by rw [z] at hs; exact absurd hs (by decide))
        have hq : stP N (tt u) (.sumL dp) h2 = .inl ([.term dp, .sumL dp], p + 1) := by rw [hst, st_sumL2, if_pos hs]
        have go2 : ∀ b2, xF 170 (xw d) P (n + 1) 45 [(1, .int v), (3, .long w), (2, .int b), (0, .ref 314)] [.int b2] m3 → ∃ rv m', P rv m' ∧ (∃ v, rv = some (.int v)) ∧ mO N u h2 dp [.sumL dp] m' := by
          intro b2 H
          replace H := f_istore_n H k170_45 (l2 := [(2, .int b2), (1, .int v), (3, .long w), (0, .ref 314)]) rfl
          replace H := f_aload_n H k170_46 rfl
          replace H := f_dup H k170_47
          replace H := f_gi H k170_48 (ci := 12) (f := 10) (by decide +kernel) (by decide)
          replace H := f_iconst H k170_51 (v := 1) (by decide)
          replace H := f_iadd H k170_52
          replace H := f_put_i H k170_53 (ci := 12) (f := 10) (by decide +kernel) (by decide)
          replace H := f_aload_n H k170_56 rfl
          rw [hm3.2.2.2.2.1, nI_s] at H
          obtain ⟨rv, m4, ⟨⟨a, rfl⟩, ho⟩, h9_57⟩ := f_inv H k170_57 (by decide +kernel) (as := []) (b := 314) (r := []) (by rfl) (hat _ (p + 1) (mS_h hm3 hpN))
          replace H := h9_57
          obtain ⟨v2, w2, H⟩ := ar _ _ _ _ _ _ H
          rcases ho with ⟨h3, hm4, hle, hok⟩ | ⟨x, hx, hxN, hno⟩
          · obtain ⟨rv, m6, hP, hv, ho⟩ := ih h3 m4 _ _ _ hm4 H
            refine ⟨rv, m6, hP, hv, ?_⟩
            rcases ho with ⟨h4, q4, q5, q6⟩ | ⟨x, q4, q5, q6⟩
            · exact Or.inl ⟨h4, q4, by omega, Rok_go hq (Rok_app (is := [.term dp]) (js := [.sumL dp]) hok q6)⟩
            · exact Or.inr ⟨x, q4, q5, Rno_go hq (Rno_app2 (is := [.term dp]) (js := [.sumL dp]) hok q6)⟩
          · obtain ⟨rv, hP, hv⟩ := out _ _ _ _ _ (by rw [hx]; exact nI_n1 hxN hN) H
            exact ⟨rv, m4, hP, hv, Or.inr ⟨x, hx, hxN, Rno_go hq (Rno_app1 (js := [.sumL dp]) hno)⟩⟩
        replace H := f_aload_n H k170_31 rfl
        obtain ⟨rv, m5, ⟨rfl, rfl⟩, h9_32⟩ := f_inv H k170_32 (by decide +kernel) (as := []) (b := 314) (r := []) (by rfl) (c_look hm3)
        replace H := h9_32
        rw [hsk, ← e3] at H
        replace H := f_bipush H k170_35 (v := 43) (by decide)
        have Hbr := f_icmp_ne H k170_37 (t := 44) (by decide)
        clear H
        rcases Hbr with ⟨c, H⟩ | ⟨c, H⟩
        · replace H := f_iconst H k170_44 (v := 0) (by decide)
          exact go2 _ H
        · replace H := f_iconst H k170_40 (v := 1) (by decide)
          replace H := f_goto H k170_41 (t := 45) (by decide)
          exact go2 _ H
      replace H := f_bipush H k170_17 (v := 43) (by decide)
      have Hbr := f_icmp_eq H k170_19 (t := 31) (by decide)
      clear H
      rcases Hbr with ⟨c1, H⟩ | ⟨c1, H⟩
      · exact go (Or.inl c1) H
      · replace H := f_aload_n H k170_22 rfl
        obtain ⟨rv, m5, ⟨rfl, rfl⟩, h9_23⟩ := f_inv H k170_23 (by decide +kernel) (as := []) (b := 314) (r := []) (by rfl) (c_look hm3)
        replace H := h9_23
        rw [hsk, ← e3, hse] at H
        replace H := f_bipush H k170_26 (v := 45) (by decide)
        have Hbr := f_icmp_ne H k170_28 (t := 84) (by decide)
        clear H
        rcases Hbr with ⟨c2, H⟩ | ⟨c2, H⟩
        · obtain ⟨rv, hP, hv⟩ := fin _ _ _ _ _ H
          refine ⟨rv, m3, hP, hv, Or.inl ⟨p, hm3, hge, Rok_go (is := []) ?_ Rok_nil⟩⟩
          rw [hst, st_sumL2, if_neg (fun z => z.elim c1 c2)]
        · exact go (Or.inr c2) H
  replace H := f_aload_n H k170_0 rfl
  obtain ⟨rv, m4, ⟨⟨a, rfl⟩, ho⟩, h9_1⟩ := f_inv H k170_1 (by decide +kernel) (as := []) (b := 314) (r := []) (by rfl) (hat _ h hm)
  replace H := h9_1
  replace H := f_istore_n H k170_4 (l2 := [(1, .int _), (0, .ref 314)]) rfl
  replace H := f_ext H (l' := [(1, .int a), (3, .long 0), (2, .int 0), (0, .ref 314)]) (lE_cons rfl (lE_cons rfl (lE_nil))) rfl rfl
  have hq : stP N (tt u) (.sum dp) h = .inl ([.term dp, .sumL dp], h) := rfl
  rcases ho with ⟨h3, hm4, hle, hok⟩ | ⟨x, hx, hxN, hno⟩
  · obtain ⟨rv, m6, hP, hv, ho⟩ := key n h3 m4 _ _ _ hm4 (f_up H (Nat.le_succ _))
    refine ⟨rv, m6, hP, hv, ?_⟩
    rcases ho with ⟨h4, q4, q5, q6⟩ | ⟨x, q4, q5, q6⟩
    · exact Or.inl ⟨h4, q4, by omega, Rok_go hq (Rok_app (is := [.term dp]) (js := [.sumL dp]) hok q6)⟩
    · exact Or.inr ⟨x, q4, q5, Rno_go hq (Rno_app2 (is := [.term dp]) (js := [.sumL dp]) hok q6)⟩
  · obtain ⟨rv, hP, hv⟩ := out _ _ _ _ _ (by rw [hx]; exact nI_n1 hxN hN) H
    exact ⟨rv, m4, hP, hv, Or.inr ⟨x, hx, hxN, Rno_go hq (Rno_app1 (js := [.sumL dp]) hno)⟩⟩
/-- at every depth -/
theorem c_msum_all : ∀ k N dp (u : Nat → Int32), dp + k = 6 → ∀ m h, mS m N h dp u → fC 170 [.ref 314] m (fun rv m' => (∃ v, rv = some (.int v)) ∧ mO N u h dp [.sum dp] m') := by
  intro k
  induction k with
  | zero => exact fun N dp u hk m h hm => c_msum (fun m h hm => c_mterm (fun m h hm => c_matom hm (fun hd => by omega)) hm) hm
  | succ k ih => exact fun N dp u hk m h hm => c_msum (fun m h hm => c_mterm (fun m h hm => c_matom hm (fun hd m h hm => ih N (dp + 1) u (by omega) m h hm)) hm) hm
theorem c_msumA {m : xM} {N h dp : Nat} {u : Nat → Int32} (hm : mS m N h dp u) : fC 170 [.ref 314] m (fun rv m' => (∃ v, rv = some (.int v)) ∧ mO N u h dp [.sum dp] m') := by
  have h6 : dp ≤ 6 := hm.2.2.2.2.2.2.2.2.2.2.2
  exact c_msum_all (6 - dp) N dp u (by omega) m h hm
theorem k172_0 : lkc 0 (kcode 172) = some (.iload_n 1) := by decide +kernel
theorem k172_1 : lkc 1 (kcode 172) = some (.ifCond .eq 7) := by decide +kernel
theorem k172_4 : lkc 4 (kcode 172) = some (.iload_n 2) := by decide +kernel
theorem k172_5 : lkc 5 (kcode 172) = some (.goto 7) := by decide +kernel
theorem k172_8 : lkc 8 (kcode 172) = some (.aload_n 0) := by decide +kernel
theorem k172_9 : lkc 9 (kcode 172) = some (.invokevirtual 155) := by decide +kernel
theorem k172_12 : lkc 12 (kcode 172) = some (.istore_n 3) := by decide +kernel
theorem k172_13 : lkc 13 (kcode 172) = some (.aload_n 0) := by decide +kernel
theorem k172_14 : lkc 14 (kcode 172) = some (.getfield 122) := by decide +kernel
theorem k172_17 : lkc 17 (kcode 172) = some (.iconst (-1)) := by decide +kernel
theorem k172_18 : lkc 18 (kcode 172) = some (.if_icmp .eq 5) := by decide +kernel
theorem k172_21 : lkc 21 (kcode 172) = some (.iconst 0) := by decide +kernel
theorem k172_22 : lkc 22 (kcode 172) = some (.ireturn) := by decide +kernel
theorem k172_23 : lkc 23 (kcode 172) = some (.aload_n 0) := by decide +kernel
theorem k172_24 : lkc 24 (kcode 172) = some (.invokevirtual 132) := by decide +kernel
theorem k172_27 : lkc 27 (kcode 172) = some (.istore 4) := by decide +kernel
theorem k172_29 : lkc 29 (kcode 172) = some (.iload 4) := by decide +kernel
theorem k172_31 : lkc 31 (kcode 172) = some (.invokestatic 175) := by decide +kernel
theorem k172_34 : lkc 34 (kcode 172) = some (.ifCond .ne 8) := by decide +kernel
theorem k172_37 : lkc 37 (kcode 172) = some (.aload_n 0) := by decide +kernel
theorem k172_38 : lkc 38 (kcode 172) = some (.invokevirtual 128) := by decide +kernel
theorem k172_41 : lkc 41 (kcode 172) = some (.ireturn) := by decide +kernel
theorem k172_42 : lkc 42 (kcode 172) = some (.aload_n 0) := by decide +kernel
theorem k172_43 : lkc 43 (kcode 172) = some (.dup) := by decide +kernel
theorem k172_44 : lkc 44 (kcode 172) = some (.getfield 113) := by decide +kernel
theorem k172_47 : lkc 47 (kcode 172) = some (.iconst 1) := by decide +kernel
theorem k172_48 : lkc 48 (kcode 172) = some (.iadd) := by decide +kernel
theorem k172_49 : lkc 49 (kcode 172) = some (.putfield 113) := by decide +kernel
theorem k172_52 : lkc 52 (kcode 172) = some (.aload_n 0) := by decide +kernel
theorem k172_53 : lkc 53 (kcode 172) = some (.invokevirtual 155) := by decide +kernel
theorem k172_56 : lkc 56 (kcode 172) = some (.istore 5) := by decide +kernel
theorem k172_58 : lkc 58 (kcode 172) = some (.iload 4) := by decide +kernel
theorem k172_60 : lkc 60 (kcode 172) = some (.bipush 61) := by decide +kernel
theorem k172_62 : lkc 62 (kcode 172) = some (.if_icmp .ne 17) := by decide +kernel
theorem k172_65 : lkc 65 (kcode 172) = some (.iload_n 3) := by decide +kernel
theorem k172_66 : lkc 66 (kcode 172) = some (.iload 5) := by decide +kernel
theorem k172_68 : lkc 68 (kcode 172) = some (.if_icmp .ne 7) := by decide +kernel
theorem k172_71 : lkc 71 (kcode 172) = some (.iconst 1) := by decide +kernel
theorem k172_72 : lkc 72 (kcode 172) = some (.goto 39) := by decide +kernel
theorem k172_75 : lkc 75 (kcode 172) = some (.iconst 0) := by decide +kernel
theorem k172_76 : lkc 76 (kcode 172) = some (.goto 35) := by decide +kernel
theorem k172_79 : lkc 79 (kcode 172) = some (.iload 4) := by decide +kernel
theorem k172_81 : lkc 81 (kcode 172) = some (.bipush 60) := by decide +kernel
theorem k172_83 : lkc 83 (kcode 172) = some (.if_icmp .ne 17) := by decide +kernel
theorem k172_86 : lkc 86 (kcode 172) = some (.iload_n 3) := by decide +kernel
theorem k172_87 : lkc 87 (kcode 172) = some (.iload 5) := by decide +kernel
theorem k172_89 : lkc 89 (kcode 172) = some (.if_icmp .ge 7) := by decide +kernel
theorem k172_92 : lkc 92 (kcode 172) = some (.iconst 1) := by decide +kernel
theorem k172_93 : lkc 93 (kcode 172) = some (.goto 18) := by decide +kernel
theorem k172_96 : lkc 96 (kcode 172) = some (.iconst 0) := by decide +kernel
theorem k172_97 : lkc 97 (kcode 172) = some (.goto 14) := by decide +kernel
theorem k172_100 : lkc 100 (kcode 172) = some (.iload_n 3) := by decide +kernel
theorem k172_101 : lkc 101 (kcode 172) = some (.iload 5) := by decide +kernel
theorem k172_103 : lkc 103 (kcode 172) = some (.if_icmp .le 7) := by decide +kernel
theorem k172_106 : lkc 106 (kcode 172) = some (.iconst 1) := by decide +kernel
theorem k172_107 : lkc 107 (kcode 172) = some (.goto 4) := by decide +kernel
theorem k172_110 : lkc 110 (kcode 172) = some (.iconst 0) := by decide +kernel
theorem k172_111 : lkc 111 (kcode 172) = some (.ireturn) := by decide +kernel
theorem k173_0 : lkc 0 (kcode 173) = some (.aload_n 0) := by decide +kernel
theorem k173_1 : lkc 1 (kcode 173) = some (.invokevirtual 132) := by decide +kernel
theorem k173_4 : lkc 4 (kcode 173) = some (.istore_n 1) := by decide +kernel
theorem k173_5 : lkc 5 (kcode 173) = some (.iload_n 1) := by decide +kernel
theorem k173_6 : lkc 6 (kcode 173) = some (.bipush 33) := by decide +kernel
theorem k173_8 : lkc 8 (kcode 173) = some (.if_icmp .ne 37) := by decide +kernel
theorem k173_11 : lkc 11 (kcode 173) = some (.aload_n 0) := by decide +kernel
theorem k173_12 : lkc 12 (kcode 173) = some (.invokevirtual 152) := by decide +kernel
theorem k173_15 : lkc 15 (kcode 173) = some (.ifCond .ne 5) := by decide +kernel
theorem k173_18 : lkc 18 (kcode 173) = some (.iconst 0) := by decide +kernel
theorem k173_19 : lkc 19 (kcode 173) = some (.ireturn) := by decide +kernel
theorem k173_20 : lkc 20 (kcode 173) = some (.aload_n 0) := by decide +kernel
theorem k173_21 : lkc 21 (kcode 173) = some (.invokevirtual 178) := by decide +kernel
theorem k173_24 : lkc 24 (kcode 173) = some (.istore_n 2) := by decide +kernel
theorem k173_25 : lkc 25 (kcode 173) = some (.aload_n 0) := by decide +kernel
theorem k173_26 : lkc 26 (kcode 173) = some (.dup) := by decide +kernel
theorem k173_27 : lkc 27 (kcode 173) = some (.getfield 125) := by decide +kernel
theorem k173_30 : lkc 30 (kcode 173) = some (.iconst 1) := by decide +kernel
theorem k173_31 : lkc 31 (kcode 173) = some (.isub) := by decide +kernel
theorem k173_32 : lkc 32 (kcode 173) = some (.putfield 125) := by decide +kernel
theorem k173_35 : lkc 35 (kcode 173) = some (.iload_n 2) := by decide +kernel
theorem k173_36 : lkc 36 (kcode 173) = some (.ifCond .ne 7) := by decide +kernel
theorem k173_39 : lkc 39 (kcode 173) = some (.iconst 1) := by decide +kernel
theorem k173_40 : lkc 40 (kcode 173) = some (.goto 4) := by decide +kernel
theorem k173_43 : lkc 43 (kcode 173) = some (.iconst 0) := by decide +kernel
theorem k173_44 : lkc 44 (kcode 173) = some (.ireturn) := by decide +kernel
theorem k173_45 : lkc 45 (kcode 173) = some (.iload_n 1) := by decide +kernel
theorem k173_46 : lkc 46 (kcode 173) = some (.bipush 40) := by decide +kernel
theorem k173_48 : lkc 48 (kcode 173) = some (.if_icmp .ne 42) := by decide +kernel
theorem k173_51 : lkc 51 (kcode 173) = some (.aload_n 0) := by decide +kernel
theorem k173_52 : lkc 52 (kcode 173) = some (.invokevirtual 152) := by decide +kernel
theorem k173_55 : lkc 55 (kcode 173) = some (.ifCond .ne 5) := by decide +kernel
theorem k173_58 : lkc 58 (kcode 173) = some (.iconst 0) := by decide +kernel
theorem k173_59 : lkc 59 (kcode 173) = some (.ireturn) := by decide +kernel
theorem k173_60 : lkc 60 (kcode 173) = some (.aload_n 0) := by decide +kernel
theorem k173_61 : lkc 61 (kcode 173) = some (.iconst 0) := by decide +kernel
theorem k173_62 : lkc 62 (kcode 173) = some (.iconst 0) := by decide +kernel
theorem k173_63 : lkc 63 (kcode 173) = some (.invokevirtual 181) := by decide +kernel
theorem k173_66 : lkc 66 (kcode 173) = some (.istore_n 2) := by decide +kernel
theorem k173_67 : lkc 67 (kcode 173) = some (.aload_n 0) := by decide +kernel
theorem k173_68 : lkc 68 (kcode 173) = some (.bipush 41) := by decide +kernel
theorem k173_70 : lkc 70 (kcode 173) = some (.invokevirtual 158) := by decide +kernel
theorem k173_73 : lkc 73 (kcode 173) = some (.ifCond .ne 5) := by decide +kernel
theorem k173_76 : lkc 76 (kcode 173) = some (.iconst 0) := by decide +kernel
theorem k173_77 : lkc 77 (kcode 173) = some (.ireturn) := by decide +kernel
theorem k173_78 : lkc 78 (kcode 173) = some (.aload_n 0) := by decide +kernel
theorem k173_79 : lkc 79 (kcode 173) = some (.dup) := by decide +kernel
theorem k173_80 : lkc 80 (kcode 173) = some (.getfield 125) := by decide +kernel
theorem k173_83 : lkc 83 (kcode 173) = some (.iconst 1) := by decide +kernel
theorem k173_84 : lkc 84 (kcode 173) = some (.isub) := by decide +kernel
theorem k173_85 : lkc 85 (kcode 173) = some (.putfield 125) := by decide +kernel
theorem k173_88 : lkc 88 (kcode 173) = some (.iload_n 2) := by decide +kernel
theorem k173_89 : lkc 89 (kcode 173) = some (.ireturn) := by decide +kernel
theorem k173_90 : lkc 90 (kcode 173) = some (.aload_n 0) := by decide +kernel
theorem k173_91 : lkc 91 (kcode 173) = some (.iconst 0) := by decide +kernel
theorem k173_92 : lkc 92 (kcode 173) = some (.iconst 0) := by decide +kernel
theorem k173_93 : lkc 93 (kcode 173) = some (.invokevirtual 185) := by decide +kernel
theorem k173_96 : lkc 96 (kcode 173) = some (.ireturn) := by decide +kernel
/-! forward: the reference's reader of a law's text: compares, unit -/
theorem st_rel2 {N : Nat} {t : Nat → Int32} {h p d : Nat} {s : Int32} : stI N t h p s (.rel d) = if isRel s then .inl ([.sum d], p + 1) else .inr p := rfl
set_option maxHeartbeats 4000000 in
theorem c_mcompares {m : xM} {N h dp : Nat} {u : Nat → Int32} {b r : Int32} (hm : mS m N h dp u) : fC 172 [.ref 314, .int b, .int r] m (fun rv m' => (∃ v, rv = some (.int v)) ∧ mO N u h dp (if b = 0 then [.sum dp, .rel dp] else [.rel dp]) m') := by
  refine fC_of (by decide) (fun d n P H => ?_)
  have hN : N ≤ 240 := hm.2.2.2.2.2.2.2.2.2.1
  have fin : ∀ n m4 a c s0, xF 172 (xw d) P n 58 [(5, .int c), (4, .int s0), (3, .int a), (0, .ref 314), (1, .int b), (2, .int r)] [] m4 → ∃ rv, P rv m4 ∧ ∃ v, rv = some (.int v) := by
    intro n m4 a c s0 H
    replace H := f_iload H k172_58 rfl
    replace H := f_bipush H k172_60 (v := 61) (by decide)
    have Hbr := f_icmp_ne H k172_62 (t := 79) (by decide)
    clear H
    rcases Hbr with ⟨c, H⟩ | ⟨c, H⟩
    · replace H := f_iload H k172_79 rfl
      replace H := f_bipush H k172_81 (v := 60) (by decide)
      have Hbr := f_icmp_ne H k172_83 (t := 100) (by decide)
      clear H
      rcases Hbr with ⟨c, H⟩ | ⟨c, H⟩
      · replace H := f_iload_n H k172_100 rfl
        replace H := f_iload H k172_101 rfl
        have Hbr := f_icmp_le H k172_103 (t := 110) (by decide)
        clear H
        rcases Hbr with ⟨c, H⟩ | ⟨c, H⟩
        · replace H := f_iconst H k172_110 (v := 0) (by decide)
          replace H := f_iret H k172_111
          exact ⟨_, H, _, rfl⟩
        · replace H := f_iconst H k172_106 (v := 1) (by decide)
          replace H := f_goto H k172_107 (t := 111) (by decide)
          replace H := f_iret H k172_111
          exact ⟨_, H, _, rfl⟩
      · replace H := f_iload_n H k172_86 rfl
        replace H := f_iload H k172_87 rfl
        have Hbr := f_icmp_ge H k172_89 (t := 96) (by decide)
        clear H
        rcases Hbr with ⟨c, H⟩ | ⟨c, H⟩
        · replace H := f_iconst H k172_96 (v := 0) (by decide)
          replace H := f_goto H k172_97 (t := 111) (by decide)
          replace H := f_iret H k172_111
          exact ⟨_, H, _, rfl⟩
        · replace H := f_iconst H k172_92 (v := 1) (by decide)
          replace H := f_goto H k172_93 (t := 111) (by decide)
          replace H := f_iret H k172_111
          exact ⟨_, H, _, rfl⟩
    · replace H := f_iload_n H k172_65 rfl
      replace H := f_iload H k172_66 rfl
      have Hbr := f_icmp_ne H k172_68 (t := 75) (by decide)
      clear H
      rcases Hbr with ⟨c, H⟩ | ⟨c, H⟩
      · replace H := f_iconst H k172_75 (v := 0) (by decide)
        replace H := f_goto H k172_76 (t := 111) (by decide)
        replace H := f_iret H k172_111
        exact ⟨_, H, _, rfl⟩
      · replace H := f_iconst H k172_71 (v := 1) (by decide)
        replace H := f_goto H k172_72 (t := 111) (by decide)
        replace H := f_iret H k172_111
        exact ⟨_, H, _, rfl⟩
  have tail : ∀ n m2 h2 a, mS m2 N h2 dp u → xF 172 (xw d) P n 12 [(0, .ref 314), (1, .int b), (2, .int r)] [.int a] m2 → ∃ rv m', P rv m' ∧ (∃ v, rv = some (.int v)) ∧ mO N u h2 dp [.rel dp] m' := by
    intro n m2 h2 a hm2 H
    have hh : h2 ≤ N := hm2.2.2.2.2.2.2.2.2.2.2.1
    have hp : sk N (tt u) h2 ≤ N := sk_le hh
    have hge : h2 ≤ sk N (tt u) h2 := sk_ge
    have hst : ∀ i, stP N (tt u) i h2 = stI N (tt u) h2 (sk N (tt u) h2) (atv N (tt u) (sk N (tt u) h2)) i := fun i => rfl
    replace H := f_istore_n H k172_12 (l2 := [(3, .int a), (0, .ref 314), (1, .int b), (2, .int r)]) rfl
    replace H := f_aload_n H k172_13 rfl
    replace H := f_gi H k172_14 (ci := 12) (f := 11) (by decide +kernel) (by decide)
    replace H := f_iconst H k172_17 (v := -1) (by decide)
    replace H := f_icmp_eq_t H k172_18 hm2.2.2.2.2.2.1 (t := 23) (by decide)
    replace H := f_aload_n H k172_23 rfl
    obtain ⟨rv, m3, ⟨rfl, e9⟩, h9_24⟩ := f_inv H k172_24 (by decide +kernel) (as := []) (b := 314) (r := []) (by rfl) (c_look hm2)
    replace H := h9_24
    have hm3 : mS m3 N (sk N (tt u) h2) dp u := by rw [e9]; exact mS_h hm2 hp
    clear e9
    generalize sk N (tt u) h2 = p at *
    have hlt : atv N (tt u) p ≠ -1 → p < N := fun z => by
      by_cases h9 : p < N
      · exact h9
      · exact absurd (atv_e h9) z
    generalize hse : atv N (tt u) p = s at *
    replace H := f_istore H k172_27 (l2 := [(4, .int _), (3, .int a), (0, .ref 314), (1, .int b), (2, .int r)]) rfl
    replace H := f_iload H k172_29 rfl
    obtain ⟨rv, m4, ⟨hz, rfl⟩, h9_31⟩ := f_ins H k172_31 (by decide +kernel) (as := [.int _]) (r := []) (by rfl) (c_isSign)
    replace H := h9_31
    rcases hz with ⟨hz, rfl⟩ | ⟨hz, rfl⟩
    · have hpN : p < N := hlt (fun z => by rw [z] at hz; exact absurd hz (by decide))
      have hq : stP N (tt u) (.rel dp) h2 = .inl ([.sum dp], p + 1) := by rw [hst, st_rel2, if_pos hz]
      replace H := f_if_ne_t H k172_34 (by decide) (t := 42) (by decide)
      replace H := f_aload_n H k172_42 rfl
      replace H := f_dup H k172_43
      replace H := f_gi H k172_44 (ci := 12) (f := 10) (by decide +kernel) (by decide)
      replace H := f_iconst H k172_47 (v := 1) (by decide)
      replace H := f_iadd H k172_48
      replace H := f_put_i H k172_49 (ci := 12) (f := 10) (by decide +kernel) (by decide)
      replace H := f_aload_n H k172_52 rfl
      rw [hm3.2.2.2.2.1, nI_s] at H
      obtain ⟨rv, m5, ⟨⟨v, rfl⟩, ho⟩, h9_53⟩ := f_inv H k172_53 (by decide +kernel) (as := []) (b := 314) (r := []) (by rfl) (c_msumA (mS_h hm3 hpN))
      replace H := h9_53
      replace H := f_istore H k172_56 (l2 := [(5, .int _), (4, .int _), (3, .int a), (0, .ref 314), (1, .int b), (2, .int r)]) rfl
      obtain ⟨rv, hP, hv⟩ := fin _ _ _ _ _ H
      refine ⟨rv, m5, hP, hv, ?_⟩
      rcases ho with ⟨h4, q4, q5, q6⟩ | ⟨x, q4, q5, q6⟩
      · exact Or.inl ⟨h4, q4, by omega, Rok_go hq q6⟩
      · exact Or.inr ⟨x, q4, q5, Rno_go hq q6⟩
    · replace H := f_if_ne_f H k172_34 rfl
      replace H := f_aload_n H k172_37 rfl
      obtain ⟨rv, m', ⟨rfl, rfl⟩, h9_38⟩ := f_inv H k172_38 (by decide +kernel) (as := []) (b := 314) (r := []) (by rfl) (c_mfails hm3.2.2.2.2.2.1 hm3.2.2.2.2.1)
      replace H := h9_38
      replace H := f_iret H k172_41
      refine ⟨_, _, H, ⟨_, rfl⟩, Or.inr ⟨p, mI_at, hp, Rno_bad ?_⟩⟩
      rw [hst, st_rel2, if_neg hz]
  replace H := f_iload_n H k172_0 rfl
  have Hbr := f_if_eq H k172_1 (t := 8) (by decide)
  clear H
  rcases Hbr with ⟨c, H⟩ | ⟨c, H⟩
  · rw [if_pos c]
    replace H := f_aload_n H k172_8 rfl
    obtain ⟨rv, m5, ⟨⟨v, rfl⟩, ho⟩, h9_9⟩ := f_inv H k172_9 (by decide +kernel) (as := []) (b := 314) (r := []) (by rfl) (c_msumA hm)
    replace H := h9_9
    rcases ho with ⟨h4, q4, q5, q6⟩ | ⟨x, q4, q5, q6⟩
    · obtain ⟨rv, m6, hP, hv, ho⟩ := tail _ _ _ _ q4 H
      refine ⟨rv, m6, hP, hv, ?_⟩
      rcases ho with ⟨h5, q7, q8, q9⟩ | ⟨x, q7, q8, q9⟩
      · exact Or.inl ⟨h5, q7, by omega, Rok_app (is := [.sum dp]) (js := [.rel dp]) q6 q9⟩
      · exact Or.inr ⟨x, q7, q8, Rno_app2 (is := [.sum dp]) (js := [.rel dp]) q6 q9⟩
    · replace H := f_istore_n H k172_12 (l2 := [(3, .int _), (0, .ref 314), (1, .int b), (2, .int r)]) rfl
      replace H := f_aload_n H k172_13 rfl
      replace H := f_gi H k172_14 (ci := 12) (f := 11) (by decide +kernel) (by decide)
      replace H := f_iconst H k172_17 (v := -1) (by decide)
      replace H := f_icmp_eq_f H k172_18 (by rw [q4]; exact nI_n1 q5 hN)
      replace H := f_iconst H k172_21 (v := 0) (by decide)
      replace H := f_iret H k172_22
      exact ⟨_, _, H, ⟨_, rfl⟩, Or.inr ⟨x, q4, q5, Rno_app1 (js := [.rel dp]) q6⟩⟩
  · rw [if_neg c]
    replace H := f_iload_n H k172_4 rfl
    replace H := f_goto H k172_5 (t := 12) (by decide)
    exact tail _ _ _ _ hm H
theorem st_unit2 {N : Nat} {t : Nat → Int32} {h p d : Nat} {s : Int32} : stI N t h p s (.unit d) = if s = 33 then (if d < 6 then .inl ([.unit (d + 1)], p + 1) else .inr p) else if s = 40 then (if d < 6 then .inl ([.cond (d + 1), .tok 41], p + 1) else .inr p) else .inl ([.sum d, .rel d], p) := rfl
set_option maxHeartbeats 4000000 in
theorem c_munit {m : xM} {N h dp : Nat} {u : Nat → Int32} (hm : mS m N h dp u) (hU : dp < 6 → ∀ m h, mS m N h (dp + 1) u → fC 173 [.ref 314] m (fun rv m' => (∃ v, rv = some (.int v)) ∧ mO N u h (dp + 1) [.unit (dp + 1)] m')) (hC : dp < 6 → ∀ m h, mS m N h (dp + 1) u → fC 175 [.ref 314, .int 0, .int 0] m (fun rv m' => (∃ v, rv = some (.int v)) ∧ mO N u h (dp + 1) [.cond (dp + 1)] m')) : fC 173 [.ref 314] m (fun rv m' => (∃ v, rv = some (.int v)) ∧ mO N u h dp [.unit dp] m') := by
  refine fC_of (by decide) (fun d n P H => ?_)
  have hN : N ≤ 240 := hm.2.2.2.2.2.2.2.2.2.1
  have hh : h ≤ N := hm.2.2.2.2.2.2.2.2.2.2.1
  have hdp : dp ≤ 6 := hm.2.2.2.2.2.2.2.2.2.2.2
  have hp : sk N (tt u) h ≤ N := sk_le hh
  have hge : h ≤ sk N (tt u) h := sk_ge
  have hst : ∀ i, stP N (tt u) i h = stI N (tt u) h (sk N (tt u) h) (atv N (tt u) (sk N (tt u) h)) i := fun i => rfl
  replace H := f_aload_n H k173_0 rfl
  obtain ⟨rv, m3, ⟨rfl, e9⟩, h9_1⟩ := f_inv H k173_1 (by decide +kernel) (as := []) (b := 314) (r := []) (by rfl) (c_look hm)
  replace H := h9_1
  have hm3 : mS m3 N (sk N (tt u) h) dp u := by rw [e9]; exact mS_h hm hp
  clear e9
  generalize sk N (tt u) h = p at *
  have hlt : atv N (tt u) p ≠ -1 → p < N := fun z => by
    by_cases h9 : p < N
    · exact h9
    · exact absurd (atv_e h9) z
  generalize hse : atv N (tt u) p = s at *
  replace H := f_istore_n H k173_4 (l2 := [(1, .int _), (0, .ref 314)]) rfl
  replace H := f_iload_n H k173_5 rfl
  replace H := f_bipush H k173_6 (v := 33) (by decide)
  have Hbr := f_icmp_ne H k173_8 (t := 45) (by decide)
  clear H
  rcases Hbr with ⟨c, H⟩ | ⟨c, H⟩
  · replace H := f_iload_n H k173_45 rfl
    replace H := f_bipush H k173_46 (v := 40) (by decide)
    have Hbr := f_icmp_ne H k173_48 (t := 90) (by decide)
    clear H
    rcases Hbr with ⟨c2, H⟩ | ⟨c2, H⟩
    · replace H := f_aload_n H k173_90 rfl
      replace H := f_iconst H k173_91 (v := 0) (by decide)
      replace H := f_iconst H k173_92 (v := 0) (by decide)
      obtain ⟨rv, m5, ⟨⟨v, rfl⟩, ho⟩, h9_93⟩ := f_inv H k173_93 (by decide +kernel) (as := [.int _, .int _]) (b := 314) (r := []) (by rfl) (c_mcompares hm3)
      replace H := h9_93
      rw [if_pos rfl] at ho
      replace H := f_iret H k173_96
      have hq : stP N (tt u) (.unit dp) h = .inl ([.sum dp, .rel dp], p) := by rw [hst, st_unit2, if_neg c, if_neg c2]
      refine ⟨_, _, H, ⟨_, rfl⟩, ?_⟩
      rcases ho with ⟨h4, q4, q5, q6⟩ | ⟨x, q4, q5, q6⟩
      · exact Or.inl ⟨h4, q4, by omega, Rok_go hq q6⟩
      · exact Or.inr ⟨x, q4, q5, Rno_go hq q6⟩
    · have hpN : p < N := hlt (fun z => by rw [z] at c2; exact absurd c2 (by decide))
      replace H := f_aload_n H k173_51 rfl
      obtain ⟨rv, m4, hg, h9_52⟩ := f_inv H k173_52 (by decide +kernel) (as := []) (b := 314) (r := []) (by rfl) (c_goesIn hm3 hpN)
      replace H := h9_52
      rcases hg with ⟨hd6, rfl, hm4⟩ | ⟨hd6, rfl, hw⟩
      · have hq : stP N (tt u) (.unit dp) h = .inl ([.cond (dp + 1), .tok 41], p + 1) := by rw [hst, st_unit2, if_neg c, if_pos c2, if_pos hd6]
        replace H := f_if_ne_t H k173_55 (by decide) (t := 60) (by decide)
        replace H := f_aload_n H k173_60 rfl
        replace H := f_iconst H k173_61 (v := 0) (by decide)
        replace H := f_iconst H k173_62 (v := 0) (by decide)
        obtain ⟨rv, m5, ⟨⟨v, rfl⟩, ho⟩, h9_63⟩ := f_inv H k173_63 (by decide +kernel) (as := [.int _, .int _]) (b := 314) (r := []) (by rfl) (hC hd6 _ _ hm4)
        replace H := h9_63
        replace H := f_istore_n H k173_66 (l2 := [(2, .int _), (1, .int _), (0, .ref 314)]) rfl
        replace H := f_aload_n H k173_67 rfl
        replace H := f_bipush H k173_68 (v := 41) (by decide)
        rcases ho with ⟨h4, hm5, q5, hok⟩ | ⟨x, hw, q5, hno⟩
        · obtain ⟨rv, m6, ht, h9_70⟩ := f_inv H k173_70 (by decide +kernel) (as := [.int _]) (b := 314) (r := []) (by rfl) (c_mtakes (s := 41) hm5 (by decide))
          replace H := h9_70
          rcases ht with ⟨ha, rfl, rfl, hlt2⟩ | ⟨ha, rfl, hw⟩
          · replace H := f_if_ne_t H k173_73 (by decide) (t := 78) (by decide)
            have hge2 : h4 ≤ sk N (tt u) h4 := sk_ge
            have hm6 := mS_h hm5 (h2 := sk N (tt u) h4 + 1) (by omega)
            have e65 := hm6.2.2.2.2.2.2.1
            replace H := f_aload_n H k173_78 rfl
            replace H := f_dup H k173_79
            replace H := f_gi H k173_80 (ci := 12) (f := 12) (by decide +kernel) (by decide)
            replace H := f_iconst H k173_83 (v := 1) (by decide)
            replace H := f_isub H k173_84
            replace H := f_put_i H k173_85 (ci := 12) (f := 12) (by decide +kernel) (by decide)
            replace H := f_iload_n H k173_88 rfl
            rw [e65, nI_1s] at H
            replace H := f_iret H k173_89
            exact ⟨_, _, H, ⟨_, rfl⟩, Or.inl ⟨_, mS_d hm6 hdp, by omega, Rok_go hq (Rok_app (is := [.cond (dp + 1)]) (js := [.tok 41]) hok (Rok_go (is := []) (by unfold stP; rw [st_tok, if_pos ha]) Rok_nil))⟩⟩
          · replace H := f_if_ne_f H k173_73 rfl
            replace H := f_iconst H k173_76 (v := 0) (by decide)
            replace H := f_iret H k173_77
            exact ⟨_, _, H, ⟨_, rfl⟩, Or.inr ⟨_, hw, sk_le hm5.2.2.2.2.2.2.2.2.2.2.1, Rno_go hq (Rno_app2 (is := [.cond (dp + 1)]) (js := [.tok 41]) hok (Rno_bad (by unfold stP; rw [st_tok, if_neg ha])))⟩⟩
        · obtain ⟨rv, m6, ⟨rfl, rfl⟩, h9_70⟩ := f_inv H k173_70 (by decide +kernel) (as := [.int _]) (b := 314) (r := []) (by rfl) (c_mtakes2 (s := 41) (by rw [hw]; exact nI_n1 q5 hN))
          replace H := h9_70
          replace H := f_if_ne_f H k173_73 rfl
          replace H := f_iconst H k173_76 (v := 0) (by decide)
          replace H := f_iret H k173_77
          exact ⟨_, _, H, ⟨_, rfl⟩, Or.inr ⟨x, hw, q5, Rno_go hq (Rno_app1 (js := [.tok 41]) hno)⟩⟩
      · replace H := f_if_ne_f H k173_55 rfl
        replace H := f_iconst H k173_58 (v := 0) (by decide)
        replace H := f_iret H k173_59
        refine ⟨_, _, H, ⟨_, rfl⟩, Or.inr ⟨p, hw, hp, Rno_bad ?_⟩⟩
        rw [hst, st_unit2, if_neg c, if_pos c2, if_neg hd6]
  · have hpN : p < N := hlt (fun z => by rw [z] at c; exact absurd c (by decide))
    replace H := f_aload_n H k173_11 rfl
    obtain ⟨rv, m4, hg, h9_12⟩ := f_inv H k173_12 (by decide +kernel) (as := []) (b := 314) (r := []) (by rfl) (c_goesIn hm3 hpN)
    replace H := h9_12
    rcases hg with ⟨hd6, rfl, hm4⟩ | ⟨hd6, rfl, hw⟩
    · have hq : stP N (tt u) (.unit dp) h = .inl ([.unit (dp + 1)], p + 1) := by rw [hst, st_unit2, if_pos c, if_pos hd6]
      replace H := f_if_ne_t H k173_15 (by decide) (t := 20) (by decide)
      replace H := f_aload_n H k173_20 rfl
      obtain ⟨rv, m5, ⟨⟨v, rfl⟩, ho⟩, h9_21⟩ := f_inv H k173_21 (by decide +kernel) (as := []) (b := 314) (r := []) (by rfl) (hU hd6 _ _ hm4)
      replace H := h9_21
      replace H := f_istore_n H k173_24 (l2 := [(2, .int _), (1, .int _), (0, .ref 314)]) rfl
      replace H := f_aload_n H k173_25 rfl
      replace H := f_dup H k173_26
      replace H := f_gi H k173_27 (ci := 12) (f := 12) (by decide +kernel) (by decide)
      replace H := f_iconst H k173_30 (v := 1) (by decide)
      replace H := f_isub H k173_31
      replace H := f_put_i H k173_32 (ci := 12) (f := 12) (by decide +kernel) (by decide)
      replace H := f_iload_n H k173_35 rfl
      have ho2 : mO N u h dp [.unit dp] (mI m5 314 12 (m5.1 314 12 - 1)) := by
        rcases ho with ⟨h4, hm5, q5, hok⟩ | ⟨x, hw, q5, hno⟩
        · rw [hm5.2.2.2.2.2.2.1, nI_1s]
          exact Or.inl ⟨h4, mS_d hm5 hdp, by omega, Rok_go hq hok⟩
        · exact Or.inr ⟨x, by rw [mI_ne (by omega)]; exact hw, q5, Rno_go hq hno⟩
      have Hbr := f_if_ne H k173_36 (t := 43) (by decide)
      clear H
      rcases Hbr with ⟨c3, H⟩ | ⟨c3, H⟩
      · replace H := f_iconst H k173_43 (v := 0) (by decide)
        replace H := f_iret H k173_44
        exact ⟨_, _, H, ⟨_, rfl⟩, ho2⟩
      · replace H := f_iconst H k173_39 (v := 1) (by decide)
        replace H := f_goto H k173_40 (t := 44) (by decide)
        replace H := f_iret H k173_44
        exact ⟨_, _, H, ⟨_, rfl⟩, ho2⟩
    · replace H := f_if_ne_f H k173_15 rfl
      replace H := f_iconst H k173_18 (v := 0) (by decide)
      replace H := f_iret H k173_19
      refine ⟨_, _, H, ⟨_, rfl⟩, Or.inr ⟨p, hw, hp, Rno_bad ?_⟩⟩
      rw [hst, st_unit2, if_pos c, if_neg hd6]
theorem k174_0 : lkc 0 (kcode 174) = some (.iload_n 1) := by decide +kernel
theorem k174_1 : lkc 1 (kcode 174) = some (.ifCond .eq 12) := by decide +kernel
theorem k174_4 : lkc 4 (kcode 174) = some (.aload_n 0) := by decide +kernel
theorem k174_5 : lkc 5 (kcode 174) = some (.iconst 1) := by decide +kernel
theorem k174_6 : lkc 6 (kcode 174) = some (.iload_n 2) := by decide +kernel
theorem k174_7 : lkc 7 (kcode 174) = some (.invokevirtual 185) := by decide +kernel
theorem k174_10 : lkc 10 (kcode 174) = some (.goto 7) := by decide +kernel
theorem k174_13 : lkc 13 (kcode 174) = some (.aload_n 0) := by decide +kernel
theorem k174_14 : lkc 14 (kcode 174) = some (.invokevirtual 178) := by decide +kernel
theorem k174_17 : lkc 17 (kcode 174) = some (.istore_n 3) := by decide +kernel
theorem k174_18 : lkc 18 (kcode 174) = some (.aload_n 0) := by decide +kernel
theorem k174_19 : lkc 19 (kcode 174) = some (.getfield 122) := by decide +kernel
theorem k174_22 : lkc 22 (kcode 174) = some (.iconst (-1)) := by decide +kernel
theorem k174_23 : lkc 23 (kcode 174) = some (.if_icmp .ne 46) := by decide +kernel
theorem k174_26 : lkc 26 (kcode 174) = some (.aload_n 0) := by decide +kernel
theorem k174_27 : lkc 27 (kcode 174) = some (.invokevirtual 132) := by decide +kernel
theorem k174_30 : lkc 30 (kcode 174) = some (.bipush 38) := by decide +kernel
theorem k174_32 : lkc 32 (kcode 174) = some (.if_icmp .ne 37) := by decide +kernel
theorem k174_35 : lkc 35 (kcode 174) = some (.aload_n 0) := by decide +kernel
theorem k174_36 : lkc 36 (kcode 174) = some (.dup) := by decide +kernel
theorem k174_37 : lkc 37 (kcode 174) = some (.getfield 113) := by decide +kernel
theorem k174_40 : lkc 40 (kcode 174) = some (.iconst 1) := by decide +kernel
theorem k174_41 : lkc 41 (kcode 174) = some (.iadd) := by decide +kernel
theorem k174_42 : lkc 42 (kcode 174) = some (.putfield 113) := by decide +kernel
theorem k174_45 : lkc 45 (kcode 174) = some (.aload_n 0) := by decide +kernel
theorem k174_46 : lkc 46 (kcode 174) = some (.invokevirtual 178) := by decide +kernel
theorem k174_49 : lkc 49 (kcode 174) = some (.istore 4) := by decide +kernel
theorem k174_51 : lkc 51 (kcode 174) = some (.iload_n 3) := by decide +kernel
theorem k174_52 : lkc 52 (kcode 174) = some (.ifCond .eq 12) := by decide +kernel
theorem k174_55 : lkc 55 (kcode 174) = some (.iload 4) := by decide +kernel
theorem k174_57 : lkc 57 (kcode 174) = some (.ifCond .eq 7) := by decide +kernel
theorem k174_60 : lkc 60 (kcode 174) = some (.iconst 1) := by decide +kernel
theorem k174_61 : lkc 61 (kcode 174) = some (.goto 4) := by decide +kernel
theorem k174_64 : lkc 64 (kcode 174) = some (.iconst 0) := by decide +kernel
theorem k174_65 : lkc 65 (kcode 174) = some (.istore_n 3) := by decide +kernel
theorem k174_66 : lkc 66 (kcode 174) = some (.goto (-48)) := by decide +kernel
theorem k174_69 : lkc 69 (kcode 174) = some (.iload_n 3) := by decide +kernel
theorem k174_70 : lkc 70 (kcode 174) = some (.ireturn) := by decide +kernel
theorem k175_0 : lkc 0 (kcode 175) = some (.aload_n 0) := by decide +kernel
theorem k175_1 : lkc 1 (kcode 175) = some (.iload_n 1) := by decide +kernel
theorem k175_2 : lkc 2 (kcode 175) = some (.iload_n 2) := by decide +kernel
theorem k175_3 : lkc 3 (kcode 175) = some (.invokevirtual 188) := by decide +kernel
theorem k175_6 : lkc 6 (kcode 175) = some (.istore_n 3) := by decide +kernel
theorem k175_7 : lkc 7 (kcode 175) = some (.aload_n 0) := by decide +kernel
theorem k175_8 : lkc 8 (kcode 175) = some (.getfield 122) := by decide +kernel
theorem k175_11 : lkc 11 (kcode 175) = some (.iconst (-1)) := by decide +kernel
theorem k175_12 : lkc 12 (kcode 175) = some (.if_icmp .ne 48) := by decide +kernel
theorem k175_15 : lkc 15 (kcode 175) = some (.aload_n 0) := by decide +kernel
theorem k175_16 : lkc 16 (kcode 175) = some (.invokevirtual 132) := by decide +kernel
theorem k175_19 : lkc 19 (kcode 175) = some (.bipush 124) := by decide +kernel
theorem k175_21 : lkc 21 (kcode 175) = some (.if_icmp .ne 39) := by decide +kernel
theorem k175_24 : lkc 24 (kcode 175) = some (.aload_n 0) := by decide +kernel
theorem k175_25 : lkc 25 (kcode 175) = some (.dup) := by decide +kernel
theorem k175_26 : lkc 26 (kcode 175) = some (.getfield 113) := by decide +kernel
theorem k175_29 : lkc 29 (kcode 175) = some (.iconst 1) := by decide +kernel
theorem k175_30 : lkc 30 (kcode 175) = some (.iadd) := by decide +kernel
theorem k175_31 : lkc 31 (kcode 175) = some (.putfield 113) := by decide +kernel
theorem k175_34 : lkc 34 (kcode 175) = some (.aload_n 0) := by decide +kernel
theorem k175_35 : lkc 35 (kcode 175) = some (.iconst 0) := by decide +kernel
theorem k175_36 : lkc 36 (kcode 175) = some (.iconst 0) := by decide +kernel
theorem k175_37 : lkc 37 (kcode 175) = some (.invokevirtual 188) := by decide +kernel
theorem k175_40 : lkc 40 (kcode 175) = some (.istore 4) := by decide +kernel
theorem k175_42 : lkc 42 (kcode 175) = some (.iload_n 3) := by decide +kernel
theorem k175_43 : lkc 43 (kcode 175) = some (.ifCond .ne 8) := by decide +kernel
theorem k175_46 : lkc 46 (kcode 175) = some (.iload 4) := by decide +kernel
theorem k175_48 : lkc 48 (kcode 175) = some (.ifCond .eq 7) := by decide +kernel
theorem k175_51 : lkc 51 (kcode 175) = some (.iconst 1) := by decide +kernel
theorem k175_52 : lkc 52 (kcode 175) = some (.goto 4) := by decide +kernel
theorem k175_55 : lkc 55 (kcode 175) = some (.iconst 0) := by decide +kernel
theorem k175_56 : lkc 56 (kcode 175) = some (.istore_n 3) := by decide +kernel
theorem k175_57 : lkc 57 (kcode 175) = some (.goto (-50)) := by decide +kernel
theorem k175_60 : lkc 60 (kcode 175) = some (.iload_n 3) := by decide +kernel
theorem k175_61 : lkc 61 (kcode 175) = some (.ireturn) := by decide +kernel
/-! forward: the reference's reader of a law's text: part, condition, at every depth -/
theorem st_truthL2 {N : Nat} {t : Nat → Int32} {h p d : Nat} {s : Int32} : stI N t h p s (.truthL d) = if s = 38 then .inl ([.unit d, .truthL d], p + 1) else .inl ([], p) := rfl
set_option maxHeartbeats 4000000 in
theorem c_mtruth {N dp : Nat} {u : Nat → Int32} (hU : ∀ m h, mS m N h dp u → fC 173 [.ref 314] m (fun rv m' => (∃ v, rv = some (.int v)) ∧ mO N u h dp [.unit dp] m')) {m : xM} {h : Nat} {b r : Int32} (hm : mS m N h dp u) : fC 174 [.ref 314, .int b, .int r] m (fun rv m' => (∃ v, rv = some (.int v)) ∧ mO N u h dp (if b = 0 then [.truth dp] else [.truthB dp]) m') := by
  refine fC_of (by decide) (fun d n P H => ?_)
  have hN : N ≤ 240 := hm.2.2.2.2.2.2.2.2.2.1
  have ar : ∀ n m4 a v w, xF 174 (xw d) P n 49 [(3, .int v), (4, .int w), (0, .ref 314), (1, .int b), (2, .int r)] [.int a] m4 → ∃ v' w', xF 174 (xw d) P n 18 [(3, .int v'), (4, .int w'), (0, .ref 314), (1, .int b), (2, .int r)] [] m4 := by
    intro n m4 a v w H
    replace H := f_istore H k174_49 (l2 := [(4, .int a), (3, .int v), (0, .ref 314), (1, .int b), (2, .int r)]) rfl
    replace H := f_iload_n H k174_51 rfl
    have Hbr := f_if_eq H k174_52 (t := 64) (by decide)
    clear H
    rcases Hbr with ⟨c, H⟩ | ⟨c, H⟩
    · replace H := f_iconst H k174_64 (v := 0) (by decide)
      replace H := f_istore_n H k174_65 (l2 := [(3, .int 0), (4, .int a), (0, .ref 314), (1, .int b), (2, .int r)]) rfl
      replace H := f_goto H k174_66 (t := 18) (by decide)
      exact ⟨_, _, H⟩
    · replace H := f_iload H k174_55 rfl
      have Hbr := f_if_eq H k174_57 (t := 64) (by decide)
      clear H
      rcases Hbr with ⟨c, H⟩ | ⟨c, H⟩
      · replace H := f_iconst H k174_64 (v := 0) (by decide)
        replace H := f_istore_n H k174_65 (l2 := [(3, .int 0), (4, .int a), (0, .ref 314), (1, .int b), (2, .int r)]) rfl
        replace H := f_goto H k174_66 (t := 18) (by decide)
        exact ⟨_, _, H⟩
      · replace H := f_iconst H k174_60 (v := 1) (by decide)
        replace H := f_goto H k174_61 (t := 65) (by decide)
        replace H := f_istore_n H k174_65 (l2 := [(3, .int 1), (4, .int a), (0, .ref 314), (1, .int b), (2, .int r)]) rfl
        replace H := f_goto H k174_66 (t := 18) (by decide)
        exact ⟨_, _, H⟩
  have fin : ∀ n m4 v w, xF 174 (xw d) P n 69 [(3, .int v), (4, .int w), (0, .ref 314), (1, .int b), (2, .int r)] [] m4 → ∃ rv, P rv m4 ∧ ∃ v, rv = some (.int v) := by
    intro n m4 v w H
    replace H := f_iload_n H k174_69 rfl
    replace H := f_iret H k174_70
    exact ⟨_, H, _, rfl⟩
  have out : ∀ n m4 v w, m4.1 314 11 ≠ -1 → xF 174 (xw d) P n 18 [(3, .int v), (4, .int w), (0, .ref 314), (1, .int b), (2, .int r)] [] m4 → ∃ rv, P rv m4 ∧ ∃ v, rv = some (.int v) := by
    intro n m4 v w hw H
    replace H := f_aload_n H k174_18 rfl
    replace H := f_gi H k174_19 (ci := 12) (f := 11) (by decide +kernel) (by decide)
    replace H := f_iconst H k174_22 (v := -1) (by decide)
    replace H := f_icmp_ne_t H k174_23 hw (t := 69) (by decide)
    exact fin _ _ _ _ H
  have key : ∀ n h2 m2 v w, mS m2 N h2 dp u → xF 174 (xw d) P (n + 1) 18 [(3, .int v), (4, .int w), (0, .ref 314), (1, .int b), (2, .int r)] [] m2 → ∃ rv m', P rv m' ∧ (∃ v, rv = some (.int v)) ∧ mO N u h2 dp [.truthL dp] m' := by
    intro n
    induction n with
    | zero => exact fun h2 m2 v w _ H => (xF_0 (f1_aload_n H k174_18 rfl)).elim
    | succ n ih =>
      intro h2 m2 v w hm2 H
      have hh : h2 ≤ N := hm2.2.2.2.2.2.2.2.2.2.2.1
      have hp : sk N (tt u) h2 ≤ N := sk_le hh
      have hge : h2 ≤ sk N (tt u) h2 := sk_ge
      have hst : ∀ i, stP N (tt u) i h2 = stI N (tt u) h2 (sk N (tt u) h2) (atv N (tt u) (sk N (tt u) h2)) i := fun i => rfl
      replace H := f1_aload_n H k174_18 rfl
      replace H := f_gi H k174_19 (ci := 12) (f := 11) (by decide +kernel) (by decide)
      replace H := f_iconst H k174_22 (v := -1) (by decide)
      replace H := f_icmp_ne_f H k174_23 hm2.2.2.2.2.2.1
      replace H := f_aload_n H k174_26 rfl
      obtain ⟨rv, m3, ⟨rfl, e9⟩, h9_27⟩ := f_inv H k174_27 (by decide +kernel) (as := []) (b := 314) (r := []) (by rfl) (c_look hm2)
      replace H := h9_27
      have hm3 : mS m3 N (sk N (tt u) h2) dp u := by rw [e9]; exact mS_h hm2 hp
      clear e9
      generalize sk N (tt u) h2 = p at *
      have hlt : atv N (tt u) p ≠ -1 → p < N := fun z => by
        by_cases h9 : p < N
        · exact h9
        · exact absurd (atv_e h9) z
      generalize hse : atv N (tt u) p = s at *
      replace H := f_bipush H k174_30 (v := 38) (by decide)
      have Hbr := f_icmp_ne H k174_32 (t := 69) (by decide)
      clear H
      rcases Hbr with ⟨c, H⟩ | ⟨c, H⟩
      · obtain ⟨rv, hP, hv⟩ := fin _ _ _ _ H
        refine ⟨rv, m3, hP, hv, Or.inl ⟨p, hm3, hge, Rok_go (is := []) ?_ Rok_nil⟩⟩
        rw [hst, st_truthL2, if_neg c]
      · have hpN : p < N := hlt (fun z => by rw [z] at c; exact absurd c (by decide))
        have hq : stP N (tt u) (.truthL dp) h2 = .inl ([.unit dp, .truthL dp], p + 1) := by rw [hst, st_truthL2, if_pos c]
        replace H := f_aload_n H k174_35 rfl
        replace H := f_dup H k174_36
        replace H := f_gi H k174_37 (ci := 12) (f := 10) (by decide +kernel) (by decide)
        replace H := f_iconst H k174_40 (v := 1) (by decide)
        replace H := f_iadd H k174_41
        replace H := f_put_i H k174_42 (ci := 12) (f := 10) (by decide +kernel) (by decide)
        replace H := f_aload_n H k174_45 rfl
        rw [hm3.2.2.2.2.1, nI_s] at H
        obtain ⟨rv, m4, ⟨⟨a, rfl⟩, ho⟩, h9_46⟩ := f_inv H k174_46 (by decide +kernel) (as := []) (b := 314) (r := []) (by rfl) (hU _ (p + 1) (mS_h hm3 hpN))
        replace H := h9_46
        obtain ⟨v2, w2, H⟩ := ar _ _ _ _ _ H
        rcases ho with ⟨h3, hm4, hle, hok⟩ | ⟨x, hx, hxN, hno⟩
        · obtain ⟨rv, m6, hP, hv, ho⟩ := ih h3 m4 _ _ hm4 H
          refine ⟨rv, m6, hP, hv, ?_⟩
          rcases ho with ⟨h4, q4, q5, q6⟩ | ⟨x, q4, q5, q6⟩
          · exact Or.inl ⟨h4, q4, by omega, Rok_go hq (Rok_app (is := [.unit dp]) (js := [.truthL dp]) hok q6)⟩
          · exact Or.inr ⟨x, q4, q5, Rno_go hq (Rno_app2 (is := [.unit dp]) (js := [.truthL dp]) hok q6)⟩
        · obtain ⟨rv, hP, hv⟩ := out _ _ _ _ (by rw [hx]; exact nI_n1 hxN hN) H
          exact ⟨rv, m4, hP, hv, Or.inr ⟨x, hx, hxN, Rno_go hq (Rno_app1 (js := [.truthL dp]) hno)⟩⟩
  have rest : ∀ (i j : It) n m4 v w, stP N (tt u) j h = .inl ([i, .truthL dp], h) → mO N u h dp [i] m4 → xF 174 (xw d) P n 18 [(3, .int v), (4, .int w), (0, .ref 314), (1, .int b), (2, .int r)] [] m4 → ∃ rv m', P rv m' ∧ (∃ v, rv = some (.int v)) ∧ mO N u h dp [j] m' := by
    intro i j n m4 v w hq ho H
    rcases ho with ⟨h3, hm4, hle, hok⟩ | ⟨x, hx, hxN, hno⟩
    · obtain ⟨rv, m6, hP, hv, ho⟩ := key n h3 m4 _ _ hm4 (f_up H (Nat.le_succ _))
      refine ⟨rv, m6, hP, hv, ?_⟩
      rcases ho with ⟨h4, q4, q5, q6⟩ | ⟨x, q4, q5, q6⟩
      · exact Or.inl ⟨h4, q4, by omega, Rok_go hq (Rok_app (is := [i]) (js := [.truthL dp]) hok q6)⟩
      · exact Or.inr ⟨x, q4, q5, Rno_go hq (Rno_app2 (is := [i]) (js := [.truthL dp]) hok q6)⟩
    · obtain ⟨rv, hP, hv⟩ := out _ _ _ _ (by rw [hx]; exact nI_n1 hxN hN) H
      exact ⟨rv, m4, hP, hv, Or.inr ⟨x, hx, hxN, Rno_go hq (Rno_app1 (js := [.truthL dp]) hno)⟩⟩
  replace H := f_iload_n H k174_0 rfl
  have Hbr := f_if_eq H k174_1 (t := 13) (by decide)
  clear H
  rcases Hbr with ⟨c, H⟩ | ⟨c, H⟩
  · rw [if_pos c]
    replace H := f_aload_n H k174_13 rfl
    obtain ⟨rv, m4, ⟨⟨a, rfl⟩, ho⟩, h9_14⟩ := f_inv H k174_14 (by decide +kernel) (as := []) (b := 314) (r := []) (by rfl) (hU _ _ hm)
    replace H := h9_14
    replace H := f_istore_n H k174_17 (l2 := [(3, .int _), (0, .ref 314), (1, .int b), (2, .int r)]) rfl
    exact rest (.unit dp) (.truth dp) _ _ _ _ rfl ho (f_ext H (l' := [(3, .int a), (4, .int 0), (0, .ref 314), (1, .int b), (2, .int r)]) (lE_cons rfl (lE_cons rfl (lE_cons rfl (lE_cons rfl lE_nil)))) rfl rfl)
  · rw [if_neg c]
    replace H := f_aload_n H k174_4 rfl
    replace H := f_iconst H k174_5 (v := 1) (by decide)
    replace H := f_iload_n H k174_6 rfl
    obtain ⟨rv, m4, ⟨⟨a, rfl⟩, ho⟩, h9_7⟩ := f_inv H k174_7 (by decide +kernel) (as := [.int _, .int _]) (b := 314) (r := []) (by rfl) (c_mcompares hm)
    replace H := h9_7
    rw [if_neg (by decide)] at ho
    replace H := f_goto H k174_10 (t := 17) (by decide)
    replace H := f_istore_n H k174_17 (l2 := [(3, .int _), (0, .ref 314), (1, .int b), (2, .int r)]) rfl
    exact rest (.rel dp) (.truthB dp) _ _ _ _ rfl ho (f_ext H (l' := [(3, .int a), (4, .int 0), (0, .ref 314), (1, .int b), (2, .int r)]) (lE_cons rfl (lE_cons rfl (lE_cons rfl (lE_cons rfl lE_nil)))) rfl rfl)
theorem st_condL2 {N : Nat} {t : Nat → Int32} {h p d : Nat} {s : Int32} : stI N t h p s (.condL d) = if s = 124 then .inl ([.truth d, .condL d], p + 1) else .inl ([], p) := rfl
set_option maxHeartbeats 4000000 in
theorem c_mcond {N dp : Nat} {u : Nat → Int32} (hU : ∀ m h, mS m N h dp u → fC 174 [.ref 314, .int 0, .int 0] m (fun rv m' => (∃ v, rv = some (.int v)) ∧ mO N u h dp [.truth dp] m')) (hP1 : ∀ m h b r, mS m N h dp u → fC 174 [.ref 314, .int b, .int r] m (fun rv m' => (∃ v, rv = some (.int v)) ∧ mO N u h dp (if b = 0 then [.truth dp] else [.truthB dp]) m')) {m : xM} {h : Nat} {b r : Int32} (hm : mS m N h dp u) : fC 175 [.ref 314, .int b, .int r] m (fun rv m' => (∃ v, rv = some (.int v)) ∧ mO N u h dp (if b = 0 then [.cond dp] else [.condB dp]) m') := by
  refine fC_of (by decide) (fun d n P H => ?_)
  have hN : N ≤ 240 := hm.2.2.2.2.2.2.2.2.2.1
  have ar : ∀ n m4 a v w, xF 175 (xw d) P n 40 [(3, .int v), (4, .int w), (0, .ref 314), (1, .int b), (2, .int r)] [.int a] m4 → ∃ v' w', xF 175 (xw d) P n 7 [(3, .int v'), (4, .int w'), (0, .ref 314), (1, .int b), (2, .int r)] [] m4 := by
    intro n m4 a v w H
    replace H := f_istore H k175_40 (l2 := [(4, .int a), (3, .int v), (0, .ref 314), (1, .int b), (2, .int r)]) rfl
    replace H := f_iload_n H k175_42 rfl
    have Hbr := f_if_ne H k175_43 (t := 51) (by decide)
    clear H
    rcases Hbr with ⟨c, H⟩ | ⟨c, H⟩
    · replace H := f_iconst H k175_51 (v := 1) (by decide)
      replace H := f_goto H k175_52 (t := 56) (by decide)
      replace H := f_istore_n H k175_56 (l2 := [(3, .int 1), (4, .int a), (0, .ref 314), (1, .int b), (2, .int r)]) rfl
      replace H := f_goto H k175_57 (t := 7) (by decide)
      exact ⟨_, _, H⟩
    · replace H := f_iload H k175_46 rfl
      have Hbr := f_if_eq H k175_48 (t := 55) (by decide)
      clear H
      rcases Hbr with ⟨c, H⟩ | ⟨c, H⟩
      · replace H := f_iconst H k175_55 (v := 0) (by decide)
        replace H := f_istore_n H k175_56 (l2 := [(3, .int 0), (4, .int a), (0, .ref 314), (1, .int b), (2, .int r)]) rfl
        replace H := f_goto H k175_57 (t := 7) (by decide)
        exact ⟨_, _, H⟩
      · replace H := f_iconst H k175_51 (v := 1) (by decide)
        replace H := f_goto H k175_52 (t := 56) (by decide)
        replace H := f_istore_n H k175_56 (l2 := [(3, .int 1), (4, .int a), (0, .ref 314), (1, .int b), (2, .int r)]) rfl
        replace H := f_goto H k175_57 (t := 7) (by decide)
        exact ⟨_, _, H⟩
  have fin : ∀ n m4 v w, xF 175 (xw d) P n 60 [(3, .int v), (4, .int w), (0, .ref 314), (1, .int b), (2, .int r)] [] m4 → ∃ rv, P rv m4 ∧ ∃ v, rv = some (.int v) := by
    intro n m4 v w H
    replace H := f_iload_n H k175_60 rfl
    replace H := f_iret H k175_61
    exact ⟨_, H, _, rfl⟩
  have out : ∀ n m4 v w, m4.1 314 11 ≠ -1 → xF 175 (xw d) P n 7 [(3, .int v), (4, .int w), (0, .ref 314), (1, .int b), (2, .int r)] [] m4 → ∃ rv, P rv m4 ∧ ∃ v, rv = some (.int v) := by
    intro n m4 v w hw H
    replace H := f_aload_n H k175_7 rfl
    replace H := f_gi H k175_8 (ci := 12) (f := 11) (by decide +kernel) (by decide)
    replace H := f_iconst H k175_11 (v := -1) (by decide)
    replace H := f_icmp_ne_t H k175_12 hw (t := 60) (by decide)
    exact fin _ _ _ _ H
  have key : ∀ n h2 m2 v w, mS m2 N h2 dp u → xF 175 (xw d) P (n + 1) 7 [(3, .int v), (4, .int w), (0, .ref 314), (1, .int b), (2, .int r)] [] m2 → ∃ rv m', P rv m' ∧ (∃ v, rv = some (.int v)) ∧ mO N u h2 dp [.condL dp] m' := by
    intro n
    induction n with
    | zero => exact fun h2 m2 v w _ H => (xF_0 (f1_aload_n H k175_7 rfl)).elim
    | succ n ih =>
      intro h2 m2 v w hm2 H
      have hh : h2 ≤ N := hm2.2.2.2.2.2.2.2.2.2.2.1
      have hp : sk N (tt u) h2 ≤ N := sk_le hh
      have hge : h2 ≤ sk N (tt u) h2 := sk_ge
      have hst : ∀ i, stP N (tt u) i h2 = stI N (tt u) h2 (sk N (tt u) h2) (atv N (tt u) (sk N (tt u) h2)) i := fun i => rfl
      replace H := f1_aload_n H k175_7 rfl
      replace H := f_gi H k175_8 (ci := 12) (f := 11) (by decide +kernel) (by decide)
      replace H := f_iconst H k175_11 (v := -1) (by decide)
      replace H := f_icmp_ne_f H k175_12 hm2.2.2.2.2.2.1
      replace H := f_aload_n H k175_15 rfl
      obtain ⟨rv, m3, ⟨rfl, e9⟩, h9_16⟩ := f_inv H k175_16 (by decide +kernel) (as := []) (b := 314) (r := []) (by rfl) (c_look hm2)
      replace H := h9_16
      have hm3 : mS m3 N (sk N (tt u) h2) dp u := by rw [e9]; exact mS_h hm2 hp
      clear e9
      generalize sk N (tt u) h2 = p at *
      have hlt : atv N (tt u) p ≠ -1 → p < N := fun z => by
        by_cases h9 : p < N
        · exact h9
        · exact absurd (atv_e h9) z
      generalize hse : atv N (tt u) p = s at *
      replace H := f_bipush H k175_19 (v := 124) (by decide)
      have Hbr := f_icmp_ne H k175_21 (t := 60) (by decide)
      clear H
      rcases Hbr with ⟨c, H⟩ | ⟨c, H⟩
      · obtain ⟨rv, hP, hv⟩ := fin _ _ _ _ H
        refine ⟨rv, m3, hP, hv, Or.inl ⟨p, hm3, hge, Rok_go (is := []) ?_ Rok_nil⟩⟩
        rw [hst, st_condL2, if_neg c]
      · have hpN : p < N := hlt (fun z => by rw [z] at c; exact absurd c (by decide))
        have hq : stP N (tt u) (.condL dp) h2 = .inl ([.truth dp, .condL dp], p + 1) := by rw [hst, st_condL2, if_pos c]
        replace H := f_aload_n H k175_24 rfl
        replace H := f_dup H k175_25
        replace H := f_gi H k175_26 (ci := 12) (f := 10) (by decide +kernel) (by decide)
        replace H := f_iconst H k175_29 (v := 1) (by decide)
        replace H := f_iadd H k175_30
        replace H := f_put_i H k175_31 (ci := 12) (f := 10) (by decide +kernel) (by decide)
        replace H := f_aload_n H k175_34 rfl
        replace H := f_iconst H k175_35 (v := 0) (by decide)
        replace H := f_iconst H k175_36 (v := 0) (by decide)
        rw [hm3.2.2.2.2.1, nI_s] at H
        obtain ⟨rv, m4, ⟨⟨a, rfl⟩, ho⟩, h9_37⟩ := f_inv H k175_37 (by decide +kernel) (as := [.int _, .int _]) (b := 314) (r := []) (by rfl) (hU _ (p + 1) (mS_h hm3 hpN))
        replace H := h9_37
        obtain ⟨v2, w2, H⟩ := ar _ _ _ _ _ H
        rcases ho with ⟨h3, hm4, hle, hok⟩ | ⟨x, hx, hxN, hno⟩
        · obtain ⟨rv, m6, hP, hv, ho⟩ := ih h3 m4 _ _ hm4 H
          refine ⟨rv, m6, hP, hv, ?_⟩
          rcases ho with ⟨h4, q4, q5, q6⟩ | ⟨x, q4, q5, q6⟩
          · exact Or.inl ⟨h4, q4, by omega, Rok_go hq (Rok_app (is := [.truth dp]) (js := [.condL dp]) hok q6)⟩
          · exact Or.inr ⟨x, q4, q5, Rno_go hq (Rno_app2 (is := [.truth dp]) (js := [.condL dp]) hok q6)⟩
        · obtain ⟨rv, hP, hv⟩ := out _ _ _ _ (by rw [hx]; exact nI_n1 hxN hN) H
          exact ⟨rv, m4, hP, hv, Or.inr ⟨x, hx, hxN, Rno_go hq (Rno_app1 (js := [.condL dp]) hno)⟩⟩
  have rest : ∀ (i j : It) n m4 v w, stP N (tt u) j h = .inl ([i, .condL dp], h) → mO N u h dp [i] m4 → xF 175 (xw d) P n 7 [(3, .int v), (4, .int w), (0, .ref 314), (1, .int b), (2, .int r)] [] m4 → ∃ rv m', P rv m' ∧ (∃ v, rv = some (.int v)) ∧ mO N u h dp [j] m' := by
    intro i j n m4 v w hq ho H
    rcases ho with ⟨h3, hm4, hle, hok⟩ | ⟨x, hx, hxN, hno⟩
    · obtain ⟨rv, m6, hP, hv, ho⟩ := key n h3 m4 _ _ hm4 (f_up H (Nat.le_succ _))
      refine ⟨rv, m6, hP, hv, ?_⟩
      rcases ho with ⟨h4, q4, q5, q6⟩ | ⟨x, q4, q5, q6⟩
      · exact Or.inl ⟨h4, q4, by omega, Rok_go hq (Rok_app (is := [i]) (js := [.condL dp]) hok q6)⟩
      · exact Or.inr ⟨x, q4, q5, Rno_go hq (Rno_app2 (is := [i]) (js := [.condL dp]) hok q6)⟩
    · obtain ⟨rv, hP, hv⟩ := out _ _ _ _ (by rw [hx]; exact nI_n1 hxN hN) H
      exact ⟨rv, m4, hP, hv, Or.inr ⟨x, hx, hxN, Rno_go hq (Rno_app1 (js := [.condL dp]) hno)⟩⟩
  replace H := f_aload_n H k175_0 rfl
  replace H := f_iload_n H k175_1 rfl
  replace H := f_iload_n H k175_2 rfl
  obtain ⟨rv, m4, ⟨⟨a, rfl⟩, ho⟩, h9_3⟩ := f_inv H k175_3 (by decide +kernel) (as := [.int _, .int _]) (b := 314) (r := []) (by rfl) (hP1 _ _ b r hm)
  replace H := h9_3
  replace H := f_istore_n H k175_6 (l2 := [(3, .int _), (0, .ref 314), (1, .int b), (2, .int r)]) rfl
  replace H := f_ext H (l' := [(3, .int a), (4, .int 0), (0, .ref 314), (1, .int b), (2, .int r)]) (lE_cons rfl (lE_cons rfl (lE_cons rfl (lE_cons rfl (lE_nil))))) rfl rfl
  by_cases c : b = 0
  · rw [if_pos c] at ho ⊢
    exact rest (.truth dp) (.cond dp) _ _ _ _ rfl ho H
  · rw [if_neg c] at ho ⊢
    exact rest (.truthB dp) (.condB dp) _ _ _ _ rfl ho H
/-- conditions and units at every depth -/
theorem c_mcu_all : ∀ k N dp (u : Nat → Int32), dp + k = 6 → (∀ m h, mS m N h dp u → fC 173 [.ref 314] m (fun rv m' => (∃ v, rv = some (.int v)) ∧ mO N u h dp [.unit dp] m')) ∧ ∀ m h b r, mS m N h dp u → fC 175 [.ref 314, .int b, .int r] m (fun rv m' => (∃ v, rv = some (.int v)) ∧ mO N u h dp (if b = 0 then [.cond dp] else [.condB dp]) m') := by
  intro k
  induction k with
  | zero =>
    intro N dp u hk
    have hu : ∀ m h, mS m N h dp u → fC 173 [.ref 314] m (fun rv m' => (∃ v, rv = some (.int v)) ∧ mO N u h dp [.unit dp] m') := fun m h hm => c_munit hm (fun h => by omega) (fun h => by omega)
    have hp : ∀ m h b r, mS m N h dp u → fC 174 [.ref 314, .int b, .int r] m (fun rv m' => (∃ v, rv = some (.int v)) ∧ mO N u h dp (if b = 0 then [.truth dp] else [.truthB dp]) m') := fun m h b r hm => c_mtruth hu hm
    exact ⟨hu, fun m h b r hm => c_mcond (fun m h hm => by have := hp m h 0 0 hm; rw [if_pos rfl] at this; exact this) hp hm⟩
  | succ k ih =>
    intro N dp u hk
    have i2 := ih N (dp + 1) u (by omega)
    have hu : ∀ m h, mS m N h dp u → fC 173 [.ref 314] m (fun rv m' => (∃ v, rv = some (.int v)) ∧ mO N u h dp [.unit dp] m') := fun m h hm => c_munit hm (fun _ => i2.1) (fun _ m h hm => by have := i2.2 m h 0 0 hm; rw [if_pos rfl] at this; exact this)
    have hp : ∀ m h b r, mS m N h dp u → fC 174 [.ref 314, .int b, .int r] m (fun rv m' => (∃ v, rv = some (.int v)) ∧ mO N u h dp (if b = 0 then [.truth dp] else [.truthB dp]) m') := fun m h b r hm => c_mtruth hu hm
    exact ⟨hu, fun m h b r hm => c_mcond (fun m h hm => by have := hp m h 0 0 hm; rw [if_pos rfl] at this; exact this) hp hm⟩
theorem c_mcondA {m : xM} {N h : Nat} {b r : Int32} {u : Nat → Int32} (hm : mS m N h 0 u) : fC 175 [.ref 314, .int b, .int r] m (fun rv m' => (∃ v, rv = some (.int v)) ∧ mO N u h 0 (if b = 0 then [.cond 0] else [.condB 0]) m') := (c_mcu_all 6 N 0 u rfl).2 m h b r hm
theorem k176_0 : lkc 0 (kcode 176) = some (.aload_n 0) := by decide +kernel
theorem k176_1 : lkc 1 (kcode 176) = some (.invokevirtual 132) := by decide +kernel
theorem k176_4 : lkc 4 (kcode 176) = some (.istore_n 1) := by decide +kernel
theorem k176_5 : lkc 5 (kcode 176) = some (.ldc 26) := by decide +kernel
theorem k176_7 : lkc 7 (kcode 176) = some (.iload_n 1) := by decide +kernel
theorem k176_8 : lkc 8 (kcode 176) = some (.invokestatic 148) := by decide +kernel
theorem k176_11 : lkc 11 (kcode 176) = some (.ifCond .ne 9) := by decide +kernel
theorem k176_14 : lkc 14 (kcode 176) = some (.aload_n 0) := by decide +kernel
theorem k176_15 : lkc 15 (kcode 176) = some (.invokevirtual 128) := by decide +kernel
theorem k176_18 : lkc 18 (kcode 176) = some (.pop) := by decide +kernel
theorem k176_19 : lkc 19 (kcode 176) = some (.return_) := by decide +kernel
theorem k176_20 : lkc 20 (kcode 176) = some (.aload_n 0) := by decide +kernel
theorem k176_21 : lkc 21 (kcode 176) = some (.dup) := by decide +kernel
theorem k176_22 : lkc 22 (kcode 176) = some (.getfield 113) := by decide +kernel
theorem k176_25 : lkc 25 (kcode 176) = some (.iconst 1) := by decide +kernel
theorem k176_26 : lkc 26 (kcode 176) = some (.iadd) := by decide +kernel
theorem k176_27 : lkc 27 (kcode 176) = some (.putfield 113) := by decide +kernel
theorem k176_30 : lkc 30 (kcode 176) = some (.aload_n 0) := by decide +kernel
theorem k176_31 : lkc 31 (kcode 176) = some (.bipush 58) := by decide +kernel
theorem k176_33 : lkc 33 (kcode 176) = some (.invokevirtual 158) := by decide +kernel
theorem k176_36 : lkc 36 (kcode 176) = some (.ifCond .ne 4) := by decide +kernel
theorem k176_39 : lkc 39 (kcode 176) = some (.return_) := by decide +kernel
theorem k176_40 : lkc 40 (kcode 176) = some (.iconst 1) := by decide +kernel
theorem k176_41 : lkc 41 (kcode 176) = some (.istore_n 2) := by decide +kernel
theorem k176_42 : lkc 42 (kcode 176) = some (.iconst 0) := by decide +kernel
theorem k176_43 : lkc 43 (kcode 176) = some (.istore_n 3) := by decide +kernel
theorem k176_44 : lkc 44 (kcode 176) = some (.aload_n 0) := by decide +kernel
theorem k176_45 : lkc 45 (kcode 176) = some (.invokevirtual 132) := by decide +kernel
theorem k176_48 : lkc 48 (kcode 176) = some (.istore 4) := by decide +kernel
theorem k176_50 : lkc 50 (kcode 176) = some (.iload 4) := by decide +kernel
theorem k176_52 : lkc 52 (kcode 176) = some (.bipush 33) := by decide +kernel
theorem k176_54 : lkc 54 (kcode 176) = some (.if_icmp .eq 10) := by decide +kernel
theorem k176_57 : lkc 57 (kcode 176) = some (.iload 4) := by decide +kernel
theorem k176_59 : lkc 59 (kcode 176) = some (.bipush 40) := by decide +kernel
theorem k176_61 : lkc 61 (kcode 176) = some (.if_icmp .ne 28) := by decide +kernel
theorem k176_64 : lkc 64 (kcode 176) = some (.aload_n 0) := by decide +kernel
theorem k176_65 : lkc 65 (kcode 176) = some (.iconst 0) := by decide +kernel
theorem k176_66 : lkc 66 (kcode 176) = some (.iconst 0) := by decide +kernel
theorem k176_67 : lkc 67 (kcode 176) = some (.invokevirtual 181) := by decide +kernel
theorem k176_70 : lkc 70 (kcode 176) = some (.istore_n 2) := by decide +kernel
theorem k176_71 : lkc 71 (kcode 176) = some (.aload_n 0) := by decide +kernel
theorem k176_72 : lkc 72 (kcode 176) = some (.bipush 63) := by decide +kernel
theorem k176_74 : lkc 74 (kcode 176) = some (.invokevirtual 158) := by decide +kernel
theorem k176_77 : lkc 77 (kcode 176) = some (.ifCond .ne 4) := by decide +kernel
theorem k176_80 : lkc 80 (kcode 176) = some (.return_) := by decide +kernel
theorem k176_81 : lkc 81 (kcode 176) = some (.aload_n 0) := by decide +kernel
theorem k176_82 : lkc 82 (kcode 176) = some (.invokevirtual 155) := by decide +kernel
theorem k176_85 : lkc 85 (kcode 176) = some (.istore_n 3) := by decide +kernel
theorem k176_86 : lkc 86 (kcode 176) = some (.goto 48) := by decide +kernel
theorem k176_89 : lkc 89 (kcode 176) = some (.aload_n 0) := by decide +kernel
theorem k176_90 : lkc 90 (kcode 176) = some (.invokevirtual 155) := by decide +kernel
theorem k176_93 : lkc 93 (kcode 176) = some (.istore_n 3) := by decide +kernel
theorem k176_94 : lkc 94 (kcode 176) = some (.aload_n 0) := by decide +kernel
theorem k176_95 : lkc 95 (kcode 176) = some (.getfield 122) := by decide +kernel
theorem k176_98 : lkc 98 (kcode 176) = some (.iconst (-1)) := by decide +kernel
theorem k176_99 : lkc 99 (kcode 176) = some (.if_icmp .ne 35) := by decide +kernel
theorem k176_102 : lkc 102 (kcode 176) = some (.aload_n 0) := by decide +kernel
theorem k176_103 : lkc 103 (kcode 176) = some (.invokevirtual 132) := by decide +kernel
theorem k176_106 : lkc 106 (kcode 176) = some (.invokestatic 175) := by decide +kernel
theorem k176_109 : lkc 109 (kcode 176) = some (.ifCond .eq 25) := by decide +kernel
theorem k176_112 : lkc 112 (kcode 176) = some (.aload_n 0) := by decide +kernel
theorem k176_113 : lkc 113 (kcode 176) = some (.iconst 1) := by decide +kernel
theorem k176_114 : lkc 114 (kcode 176) = some (.iload_n 3) := by decide +kernel
theorem k176_115 : lkc 115 (kcode 176) = some (.invokevirtual 181) := by decide +kernel
theorem k176_118 : lkc 118 (kcode 176) = some (.istore_n 2) := by decide +kernel
theorem k176_119 : lkc 119 (kcode 176) = some (.aload_n 0) := by decide +kernel
theorem k176_120 : lkc 120 (kcode 176) = some (.bipush 63) := by decide +kernel
theorem k176_122 : lkc 122 (kcode 176) = some (.invokevirtual 158) := by decide +kernel
theorem k176_125 : lkc 125 (kcode 176) = some (.ifCond .ne 4) := by decide +kernel
theorem k176_128 : lkc 128 (kcode 176) = some (.return_) := by decide +kernel
theorem k176_129 : lkc 129 (kcode 176) = some (.aload_n 0) := by decide +kernel
theorem k176_130 : lkc 130 (kcode 176) = some (.invokevirtual 155) := by decide +kernel
theorem k176_133 : lkc 133 (kcode 176) = some (.istore_n 3) := by decide +kernel
theorem k176_134 : lkc 134 (kcode 176) = some (.aload_n 0) := by decide +kernel
theorem k176_135 : lkc 135 (kcode 176) = some (.getfield 122) := by decide +kernel
theorem k176_138 : lkc 138 (kcode 176) = some (.iconst (-1)) := by decide +kernel
theorem k176_139 : lkc 139 (kcode 176) = some (.if_icmp .ne 22) := by decide +kernel
theorem k176_142 : lkc 142 (kcode 176) = some (.aload_n 0) := by decide +kernel
theorem k176_143 : lkc 143 (kcode 176) = some (.getfield 191) := by decide +kernel
theorem k176_146 : lkc 146 (kcode 176) = some (.ifCond .ne 15) := by decide +kernel
theorem k176_149 : lkc 149 (kcode 176) = some (.iload_n 1) := by decide +kernel
theorem k176_150 : lkc 150 (kcode 176) = some (.aload_n 0) := by decide +kernel
theorem k176_151 : lkc 151 (kcode 176) = some (.getfield 195) := by decide +kernel
theorem k176_154 : lkc 154 (kcode 176) = some (.if_icmp .ne 7) := by decide +kernel
theorem k176_157 : lkc 157 (kcode 176) = some (.iload_n 2) := by decide +kernel
theorem k176_158 : lkc 158 (kcode 176) = some (.ifCond .ne 4) := by decide +kernel
theorem k176_161 : lkc 161 (kcode 176) = some (.return_) := by decide +kernel
theorem k176_162 : lkc 162 (kcode 176) = some (.aload_n 0) := by decide +kernel
theorem k176_163 : lkc 163 (kcode 176) = some (.iconst 1) := by decide +kernel
theorem k176_164 : lkc 164 (kcode 176) = some (.putfield 191) := by decide +kernel
theorem k176_167 : lkc 167 (kcode 176) = some (.aload_n 0) := by decide +kernel
theorem k176_168 : lkc 168 (kcode 176) = some (.iload_n 3) := by decide +kernel
theorem k176_169 : lkc 169 (kcode 176) = some (.putfield 198) := by decide +kernel
theorem k176_172 : lkc 172 (kcode 176) = some (.return_) := by decide +kernel
theorem k177_0 : lkc 0 (kcode 177) = some (.aload_n 0) := by decide +kernel
theorem k177_1 : lkc 1 (kcode 177) = some (.aload_n 1) := by decide +kernel
theorem k177_2 : lkc 2 (kcode 177) = some (.putfield 23) := by decide +kernel
theorem k177_5 : lkc 5 (kcode 177) = some (.aload_n 0) := by decide +kernel
theorem k177_6 : lkc 6 (kcode 177) = some (.iload_n 2) := by decide +kernel
theorem k177_7 : lkc 7 (kcode 177) = some (.putfield 119) := by decide +kernel
theorem k177_10 : lkc 10 (kcode 177) = some (.aload_n 0) := by decide +kernel
theorem k177_11 : lkc 11 (kcode 177) = some (.iload_n 3) := by decide +kernel
theorem k177_12 : lkc 12 (kcode 177) = some (.putfield 116) := by decide +kernel
theorem k177_15 : lkc 15 (kcode 177) = some (.aload_n 0) := by decide +kernel
theorem k177_16 : lkc 16 (kcode 177) = some (.iconst 0) := by decide +kernel
theorem k177_17 : lkc 17 (kcode 177) = some (.putfield 113) := by decide +kernel
theorem k177_20 : lkc 20 (kcode 177) = some (.aload_n 0) := by decide +kernel
theorem k177_21 : lkc 21 (kcode 177) = some (.iconst (-1)) := by decide +kernel
theorem k177_22 : lkc 22 (kcode 177) = some (.putfield 122) := by decide +kernel
theorem k177_25 : lkc 25 (kcode 177) = some (.return_) := by decide +kernel
theorem k178_0 : lkc 0 (kcode 178) = some (.aload_n 0) := by decide +kernel
theorem k178_1 : lkc 1 (kcode 178) = some (.aload_n 1) := by decide +kernel
theorem k178_2 : lkc 2 (kcode 178) = some (.iload_n 2) := by decide +kernel
theorem k178_3 : lkc 3 (kcode 178) = some (.iload_n 3) := by decide +kernel
theorem k178_4 : lkc 4 (kcode 178) = some (.invokevirtual 201) := by decide +kernel
theorem k178_7 : lkc 7 (kcode 178) = some (.aload_n 0) := by decide +kernel
theorem k178_8 : lkc 8 (kcode 178) = some (.bipush 121) := by decide +kernel
theorem k178_10 : lkc 10 (kcode 178) = some (.putfield 195) := by decide +kernel
theorem k178_13 : lkc 13 (kcode 178) = some (.aload_n 0) := by decide +kernel
theorem k178_14 : lkc 14 (kcode 178) = some (.iconst 0) := by decide +kernel
theorem k178_15 : lkc 15 (kcode 178) = some (.putfield 125) := by decide +kernel
theorem k178_18 : lkc 18 (kcode 178) = some (.aload_n 0) := by decide +kernel
theorem k178_19 : lkc 19 (kcode 178) = some (.iconst 0) := by decide +kernel
theorem k178_20 : lkc 20 (kcode 178) = some (.putfield 191) := by decide +kernel
theorem k178_23 : lkc 23 (kcode 178) = some (.aload_n 0) := by decide +kernel
theorem k178_24 : lkc 24 (kcode 178) = some (.iconst 0) := by decide +kernel
theorem k178_25 : lkc 25 (kcode 178) = some (.putfield 198) := by decide +kernel
theorem k178_28 : lkc 28 (kcode 178) = some (.aload_n 0) := by decide +kernel
theorem k178_29 : lkc 29 (kcode 178) = some (.invokevirtual 205) := by decide +kernel
theorem k178_32 : lkc 32 (kcode 178) = some (.aload_n 0) := by decide +kernel
theorem k178_33 : lkc 33 (kcode 178) = some (.getfield 122) := by decide +kernel
theorem k178_36 : lkc 36 (kcode 178) = some (.iconst (-1)) := by decide +kernel
theorem k178_37 : lkc 37 (kcode 178) = some (.if_icmp .ne 29) := by decide +kernel
theorem k178_40 : lkc 40 (kcode 178) = some (.aload_n 0) := by decide +kernel
theorem k178_41 : lkc 41 (kcode 178) = some (.invokevirtual 132) := by decide +kernel
theorem k178_44 : lkc 44 (kcode 178) = some (.bipush 59) := by decide +kernel
theorem k178_46 : lkc 46 (kcode 178) = some (.if_icmp .ne 20) := by decide +kernel
theorem k178_49 : lkc 49 (kcode 178) = some (.aload_n 0) := by decide +kernel
theorem k178_50 : lkc 50 (kcode 178) = some (.dup) := by decide +kernel
theorem k178_51 : lkc 51 (kcode 178) = some (.getfield 113) := by decide +kernel
theorem k178_54 : lkc 54 (kcode 178) = some (.iconst 1) := by decide +kernel
theorem k178_55 : lkc 55 (kcode 178) = some (.iadd) := by decide +kernel
theorem k178_56 : lkc 56 (kcode 178) = some (.putfield 113) := by decide +kernel
theorem k178_59 : lkc 59 (kcode 178) = some (.aload_n 0) := by decide +kernel
theorem k178_60 : lkc 60 (kcode 178) = some (.invokevirtual 205) := by decide +kernel
theorem k178_63 : lkc 63 (kcode 178) = some (.goto (-31)) := by decide +kernel
theorem k178_66 : lkc 66 (kcode 178) = some (.aload_n 0) := by decide +kernel
theorem k178_67 : lkc 67 (kcode 178) = some (.getfield 122) := by decide +kernel
theorem k178_70 : lkc 70 (kcode 178) = some (.iconst (-1)) := by decide +kernel
theorem k178_71 : lkc 71 (kcode 178) = some (.if_icmp .ne 16) := by decide +kernel
theorem k178_74 : lkc 74 (kcode 178) = some (.aload_n 0) := by decide +kernel
theorem k178_75 : lkc 75 (kcode 178) = some (.invokevirtual 132) := by decide +kernel
theorem k178_78 : lkc 78 (kcode 178) = some (.iconst (-1)) := by decide +kernel
theorem k178_79 : lkc 79 (kcode 178) = some (.if_icmp .eq 8) := by decide +kernel
theorem k178_82 : lkc 82 (kcode 178) = some (.aload_n 0) := by decide +kernel
theorem k178_83 : lkc 83 (kcode 178) = some (.invokevirtual 128) := by decide +kernel
theorem k178_86 : lkc 86 (kcode 178) = some (.pop) := by decide +kernel
theorem k178_87 : lkc 87 (kcode 178) = some (.return_) := by decide +kernel
/-! forward: the reference's reader of a law's text: clause, goThrough -/
theorem mS_o {m : xM} {N h dp f : Nat} {v : Int32} {u : Nat → Int32} (hm : mS m N h dp u) (hf : f ≤ 7 ∨ 13 ≤ f) : mS (mI m 314 f v) N h dp u := by
  obtain ⟨e0, e1, e2, e3, e4, e5, e6, e7, e8, e9, e10, e11⟩ := hm
  exact ⟨e0, e1, by rw [mI_ne (by omega)]; exact e2, by rw [mI_ne (by omega)]; exact e3, by rw [mI_ne (by omega)]; exact e4, by rw [mI_ne (by omega)]; exact e5, by rw [mI_ne (by omega)]; exact e6, by rw [← e7]; exact funext fun j => mI_ne (by omega), e8, e9, e10, e11⟩
theorem mO_o {m : xM} {N h dp f : Nat} {v : Int32} {u : Nat → Int32} {is : List It} (hm : mO N u h dp is m) (hf : f ≤ 7 ∨ 13 ≤ f) : mO N u h dp is (mI m 314 f v) := by
  rcases hm with ⟨h2, q1, q2, q3⟩ | ⟨w, q1, q2, q3⟩
  · exact Or.inl ⟨h2, mS_o q1 hf, q2, q3⟩
  · exact Or.inr ⟨w, by rw [mI_ne (by omega)]; exact q1, q2, q3⟩
theorem st_clz2 {N : Nat} {t : Nat → Int32} {h p : Nat} {s : Int32} : stI N t h p s .clz = if s = 33 ∨ s = 40 then .inl ([.cond 0, .tok 63, .sum 0], p) else .inl ([.sum 0, .clq], p) := rfl
theorem st_clq2 {N : Nat} {t : Nat → Int32} {h p : Nat} {s : Int32} : stI N t h p s .clq = if isRel s then .inl ([.condB 0, .tok 63, .sum 0], p) else .inl ([], p) := rfl
theorem st_lawL2 {N : Nat} {t : Nat → Int32} {h p : Nat} {s : Int32} : stI N t h p s .lawL = if s = -1 then .inl ([], p) else if s = 59 then .inl ([.clause, .lawL], p + 1) else .inr p := rfl
set_option maxHeartbeats 4000000 in
theorem c_mclause {m : xM} {N h : Nat} {u : Nat → Int32} (hm : mS m N h 0 u) : fC 176 [.ref 314] m (fun rv m' => rv = none ∧ mO N u h 0 [.clause] m') := by
  refine fC_of (by decide) (fun d n P H => ?_)
  have hN : N ≤ 240 := hm.2.2.2.2.2.2.2.2.2.1
  have hh : h ≤ N := hm.2.2.2.2.2.2.2.2.2.2.1
  -- the clause's end
  have fin : ∀ n m4 h is v b s4 s1, mO N u h 0 is m4 → xF 176 (xw d) P n 134 [(3, .int v), (2, .int b), (4, .int s4), (1, .int s1), (0, .ref 314)] [] m4 → ∃ rv m', P rv m' ∧ rv = none ∧ mO N u h 0 is m' := by
    intro n m4 h is v b s4 s1 ho H
    have stop : ∀ n, xF 176 (xw d) P n 161 [(3, .int v), (2, .int b), (4, .int s4), (1, .int s1), (0, .ref 314)] [] m4 → ∃ rv m', P rv m' ∧ rv = none ∧ mO N u h 0 is m' := by
      intro n H
      replace H := f_ret H k176_161
      exact ⟨_, _, H, rfl, ho⟩
    replace H := f_aload_n H k176_134 rfl
    replace H := f_gi H k176_135 (ci := 12) (f := 11) (by decide +kernel) (by decide)
    replace H := f_iconst H k176_138 (v := -1) (by decide)
    have Hbr := f_icmp_ne H k176_139 (t := 161) (by decide)
    clear H
    rcases Hbr with ⟨c, H⟩ | ⟨c, H⟩
    · exact stop _ H
    replace H := f_aload_n H k176_142 rfl
    replace H := f_gi H k176_143 (ci := 12) (f := 17) (by decide +kernel) (by decide)
    have Hbr := f_if_ne H k176_146 (t := 161) (by decide)
    clear H
    rcases Hbr with ⟨c, H⟩ | ⟨c, H⟩
    · exact stop _ H
    replace H := f_iload_n H k176_149 rfl
    replace H := f_aload_n H k176_150 rfl
    replace H := f_gi H k176_151 (ci := 12) (f := 13) (by decide +kernel) (by decide)
    have Hbr := f_icmp_ne H k176_154 (t := 161) (by decide)
    clear H
    rcases Hbr with ⟨c, H⟩ | ⟨c, H⟩
    · exact stop _ H
    replace H := f_iload_n H k176_157 rfl
    have Hbr := f_if_ne H k176_158 (t := 162) (by decide)
    clear H
    rcases Hbr with ⟨c, H⟩ | ⟨c, H⟩
    · replace H := f_aload_n H k176_162 rfl
      replace H := f_iconst H k176_163 (v := 1) (by decide)
      replace H := f_put_b H k176_164 (ci := 12) (f := 17) (by decide +kernel) (by decide)
      replace H := f_aload_n H k176_167 rfl
      replace H := f_iload_n H k176_168 rfl
      replace H := f_put_i H k176_169 (ci := 12) (f := 14) (by decide +kernel) (by decide)
      replace H := f_ret H k176_172
      exact ⟨_, _, H, rfl, mO_o (mO_o ho (by omega)) (by omega)⟩
    · exact stop _ H
  -- what comes behind a condition: ? and a sum
  have ques : ∀ n m4 h2 h3 i v b s4 s1 pc0, (pc0 = 71 ∨ pc0 = 119) → i = It.cond 0 ∨ i = It.condB 0 → mO N u h2 0 [i] m4 → h3 ≤ h2 → xF 176 (xw d) P n pc0 [(3, .int v), (2, .int b), (4, .int s4), (1, .int s1), (0, .ref 314)] [] m4 → ∃ rv m', P rv m' ∧ rv = none ∧ mO N u h2 0 [i, .tok 63, .sum 0] m' := by
    intro n m4 h2 h3 i v b s4 s1 pc0 hpc hi ho hle H
    rcases ho with ⟨h4, hm4, hle4, hok⟩ | ⟨x, hx, hxN, hno⟩
    · have hge2 : h4 ≤ sk N (tt u) h4 := sk_ge
      have good : ∀ n m5 b s4 s1, mS m5 N (sk N (tt u) h4 + 1) 0 u → atv N (tt u) (sk N (tt u) h4) = 63 → (∀ a, ∀ m6, mO N u (sk N (tt u) h4 + 1) 0 [.sum 0] m6 → xF 176 (xw d) P n 134 [(3, .int a), (2, .int b), (4, .int s4), (1, .int s1), (0, .ref 314)] [] m6 → ∃ rv m', P rv m' ∧ rv = none ∧ mO N u h2 0 [i, .tok 63, .sum 0] m') := by
        intro n m5 b s4 s1 hm5 ha a m6 ho6 H
        obtain ⟨rv, m7, hP, hv, ho7⟩ := fin _ _ _ _ _ _ _ _ ho6 H
        have hq : stP N (tt u) (.tok 63) h4 = .inl ([], sk N (tt u) h4 + 1) := by unfold stP; rw [st_tok, if_pos ha]
        refine ⟨rv, m7, hP, hv, ?_⟩
        rcases ho7 with ⟨h8, q4, q5, q6⟩ | ⟨x, q4, q5, q6⟩
        · exact Or.inl ⟨h8, q4, by omega, Rok_app (is := [i]) (js := [.tok 63, .sum 0]) hok (Rok_app (is := [.tok 63]) (js := [.sum 0]) (Rok_go (is := []) hq Rok_nil) q6)⟩
        · exact Or.inr ⟨x, q4, q5, Rno_app2 (is := [i]) (js := [.tok 63, .sum 0]) hok (Rno_app2 (is := [.tok 63]) (js := [.sum 0]) (Rok_go (is := []) hq Rok_nil) q6)⟩
      have bad : ∀ m5, atv N (tt u) (sk N (tt u) h4) ≠ 63 → m5.1 314 11 = nI (sk N (tt u) h4) → mO N u h2 0 [i, .tok 63, .sum 0] m5 := by
        intro m5 ha hw
        exact Or.inr ⟨_, hw, sk_le hm4.2.2.2.2.2.2.2.2.2.2.1, Rno_app2 (is := [i]) (js := [.tok 63, .sum 0]) hok (Rno_app1 (is := [.tok 63]) (js := [.sum 0]) (Rno_bad (by unfold stP; rw [st_tok, if_neg ha])))⟩
      rcases hpc with rfl | rfl
      · replace H := f_aload_n H k176_71 rfl
        replace H := f_bipush H k176_72 (v := 63) (by decide)
        obtain ⟨rv, m5, ht, h9_74⟩ := f_inv H k176_74 (by decide +kernel) (as := [.int _]) (b := 314) (r := []) (by rfl) (c_mtakes (s := 63) hm4 (by decide))
        replace H := h9_74
        rcases ht with ⟨ha, rfl, rfl, hlt2⟩ | ⟨ha, rfl, hw⟩
        · replace H := f_if_ne_t H k176_77 (by decide) (t := 81) (by decide)
          have hm5 := mS_h hm4 (h2 := sk N (tt u) h4 + 1) (by omega)
          replace H := f_aload_n H k176_81 rfl
          obtain ⟨rv, m6, ⟨⟨a, rfl⟩, ho6⟩, h9_82⟩ := f_inv H k176_82 (by decide +kernel) (as := []) (b := 314) (r := []) (by rfl) (c_msumA hm5)
          replace H := h9_82
          replace H := f_istore_n H k176_85 (l2 := [(3, .int _), (2, .int b), (4, .int s4), (1, .int s1), (0, .ref 314)]) rfl
          replace H := f_goto H k176_86 (t := 134) (by decide)
          exact good _ _ _ _ _ hm5 ha _ _ ho6 H
        · replace H := f_if_ne_f H k176_77 rfl
          replace H := f_ret H k176_80
          exact ⟨_, _, H, rfl, bad _ ha hw⟩
      · replace H := f_aload_n H k176_119 rfl
        replace H := f_bipush H k176_120 (v := 63) (by decide)
        obtain ⟨rv, m5, ht, h9_122⟩ := f_inv H k176_122 (by decide +kernel) (as := [.int _]) (b := 314) (r := []) (by rfl) (c_mtakes (s := 63) hm4 (by decide))
        replace H := h9_122
        rcases ht with ⟨ha, rfl, rfl, hlt2⟩ | ⟨ha, rfl, hw⟩
        · replace H := f_if_ne_t H k176_125 (by decide) (t := 129) (by decide)
          have hm5 := mS_h hm4 (h2 := sk N (tt u) h4 + 1) (by omega)
          replace H := f_aload_n H k176_129 rfl
          obtain ⟨rv, m6, ⟨⟨a, rfl⟩, ho6⟩, h9_130⟩ := f_inv H k176_130 (by decide +kernel) (as := []) (b := 314) (r := []) (by rfl) (c_msumA hm5)
          replace H := h9_130
          replace H := f_istore_n H k176_133 (l2 := [(3, .int _), (2, .int b), (4, .int s4), (1, .int s1), (0, .ref 314)]) rfl
          exact good _ _ _ _ _ hm5 ha _ _ ho6 H
        · replace H := f_if_ne_f H k176_125 rfl
          replace H := f_ret H k176_128
          exact ⟨_, _, H, rfl, bad _ ha hw⟩
    · have hx2 : m4.1 314 11 ≠ -1 := by rw [hx]; exact nI_n1 hxN hN
      rcases hpc with rfl | rfl
      · replace H := f_aload_n H k176_71 rfl
        replace H := f_bipush H k176_72 (v := 63) (by decide)
        obtain ⟨rv, m5, ⟨rfl, rfl⟩, h9_74⟩ := f_inv H k176_74 (by decide +kernel) (as := [.int _]) (b := 314) (r := []) (by rfl) (c_mtakes2 (s := 63) hx2)
        replace H := h9_74
        replace H := f_if_ne_f H k176_77 rfl
        replace H := f_ret H k176_80
        exact ⟨_, _, H, rfl, Or.inr ⟨x, hx, hxN, Rno_app1 (js := [.tok 63, .sum 0]) hno⟩⟩
      · replace H := f_aload_n H k176_119 rfl
        replace H := f_bipush H k176_120 (v := 63) (by decide)
        obtain ⟨rv, m5, ⟨rfl, rfl⟩, h9_122⟩ := f_inv H k176_122 (by decide +kernel) (as := [.int _]) (b := 314) (r := []) (by rfl) (c_mtakes2 (s := 63) hx2)
        replace H := h9_122
        replace H := f_if_ne_f H k176_125 rfl
        replace H := f_ret H k176_128
        exact ⟨_, _, H, rfl, Or.inr ⟨x, hx, hxN, Rno_app1 (js := [.tok 63, .sum 0]) hno⟩⟩
  have hp : sk N (tt u) h ≤ N := sk_le hh
  have hge : h ≤ sk N (tt u) h := sk_ge
  have hst : ∀ i, stP N (tt u) i h = stI N (tt u) h (sk N (tt u) h) (atv N (tt u) (sk N (tt u) h)) i := fun i => rfl
  have hcl : stP N (tt u) .clause h = .inl ([.tok 121, .tok 58, .clz], h) := rfl
  replace H := f_aload_n H k176_0 rfl
  obtain ⟨rv, m1, ⟨rfl, e9⟩, h9_1⟩ := f_inv H k176_1 (by decide +kernel) (as := []) (b := 314) (r := []) (by rfl) (c_look hm)
  replace H := h9_1
  have hm1 : mS m1 N (sk N (tt u) h) 0 u := by rw [e9]; exact mS_h hm hp
  clear e9
  generalize sk N (tt u) h = p at *
  have hlt : atv N (tt u) p ≠ -1 → p < N := fun z => by
    by_cases h9 : p < N
    · exact h9
    · exact absurd (atv_e h9) z
  generalize hse : atv N (tt u) p = s at *
  replace H := f_istore_n H k176_4 (l2 := [(1, .int _), (0, .ref 314)]) rfl
  replace H := f_ldc_r H k176_5 (v := 1000) (by decide +kernel)
  replace H := f_iload_n H k176_7 rfl
  obtain ⟨rv, m2, ⟨hz, rfl⟩, h9_8⟩ := f_ins H k176_8 (by decide +kernel) (as := [.ref 1000, .int _]) (r := []) (by rfl) (c_isAmongY)
  replace H := h9_8
  rcases hz with ⟨hz, rfl⟩ | ⟨hz, rfl⟩
  · have hpN : p < N := hlt (fun z => by rw [z] at hz; exact absurd hz (by decide))
    have hq1 : stP N (tt u) (.tok 121) h = .inl ([], p + 1) := by rw [hst, st_tok, if_pos hz]
    replace H := f_if_ne_t H k176_11 (by decide) (t := 20) (by decide)
    replace H := f_aload_n H k176_20 rfl
    replace H := f_dup H k176_21
    replace H := f_gi H k176_22 (ci := 12) (f := 10) (by decide +kernel) (by decide)
    replace H := f_iconst H k176_25 (v := 1) (by decide)
    replace H := f_iadd H k176_26
    replace H := f_put_i H k176_27 (ci := 12) (f := 10) (by decide +kernel) (by decide)
    replace H := f_aload_n H k176_30 rfl
    replace H := f_bipush H k176_31 (v := 58) (by decide)
    rw [hm1.2.2.2.2.1, nI_s] at H
    have hm3 := mS_h hm1 (h2 := p + 1) hpN
    obtain ⟨rv, m5, ht, h9_33⟩ := f_inv H k176_33 (by decide +kernel) (as := [.int _]) (b := 314) (r := []) (by rfl) (c_mtakes (s := 58) hm3 (by decide))
    replace H := h9_33
    have hp3 : sk N (tt u) (p + 1) ≤ N := sk_le (by omega)
    have hge3 : p + 1 ≤ sk N (tt u) (p + 1) := sk_ge
    rcases ht with ⟨ha, rfl, rfl, hlt2⟩ | ⟨ha, rfl, hw⟩
    · have hq2 : stP N (tt u) (.tok 58) (p + 1) = .inl ([], sk N (tt u) (p + 1) + 1) := by unfold stP; rw [st_tok, if_pos ha]
      have hm4 := mS_h hm3 (h2 := sk N (tt u) (p + 1) + 1) (by omega)
      generalize sk N (tt u) (p + 1) = p3 at *
      have up : ∀ rv m', P rv m' ∧ rv = none ∧ mO N u (p3 + 1) 0 [.clz] m' → ∃ rv m', P rv m' ∧ rv = none ∧ mO N u h 0 [.clause] m' := by
        intro rv m' ⟨hP, hv, ho⟩
        refine ⟨rv, m', hP, hv, ?_⟩
        rcases ho with ⟨h8, q4, q5, q6⟩ | ⟨x, q4, q5, q6⟩
        · exact Or.inl ⟨h8, q4, by omega, Rok_go hcl (Rok_app (is := [.tok 121]) (js := [.tok 58, .clz]) (Rok_go (is := []) hq1 Rok_nil) (Rok_app (is := [.tok 58]) (js := [.clz]) (Rok_go (is := []) hq2 Rok_nil) q6))⟩
        · exact Or.inr ⟨x, q4, q5, Rno_go hcl (Rno_app2 (is := [.tok 121]) (js := [.tok 58, .clz]) (Rok_go (is := []) hq1 Rok_nil) (Rno_app2 (is := [.tok 58]) (js := [.clz]) (Rok_go (is := []) hq2 Rok_nil) q6))⟩
      have up2 : (∃ rv m', P rv m' ∧ rv = none ∧ mO N u (p3 + 1) 0 [.clz] m') → ∃ rv m', P rv m' ∧ rv = none ∧ mO N u h 0 [.clause] m' := fun ⟨rv, m', h⟩ => up rv m' h
      refine up2 ?_
      replace H := f_if_ne_t H k176_36 (by decide) (t := 40) (by decide)
      replace H := f_iconst H k176_40 (v := 1) (by decide)
      replace H := f_istore_n H k176_41 (l2 := [(2, .int 1), (1, .int _), (0, .ref 314)]) rfl
      replace H := f_iconst H k176_42 (v := 0) (by decide)
      replace H := f_istore_n H k176_43 (l2 := [(3, .int 0), (2, .int 1), (1, .int _), (0, .ref 314)]) rfl
      replace H := f_aload_n H k176_44 rfl
      have hh4 : p3 + 1 ≤ N := hlt2
      have hp4 : sk N (tt u) (p3 + 1) ≤ N := sk_le hh4
      have hge4 : p3 + 1 ≤ sk N (tt u) (p3 + 1) := sk_ge
      have hst4 : ∀ i, stP N (tt u) i (p3 + 1) = stI N (tt u) (p3 + 1) (sk N (tt u) (p3 + 1)) (atv N (tt u) (sk N (tt u) (p3 + 1))) i := fun i => rfl
      obtain ⟨rv, m6, ⟨rfl, e9⟩, h9_45⟩ := f_inv H k176_45 (by decide +kernel) (as := []) (b := 314) (r := []) (by rfl) (c_look hm4)
      replace H := h9_45
      have hm6 : mS m6 N (sk N (tt u) (p3 + 1)) 0 u := by rw [e9]; exact mS_h hm4 hp4
      clear e9
      generalize sk N (tt u) (p3 + 1) = p4 at *
      generalize hse4 : atv N (tt u) p4 = s4 at *
      have cnd : s4 = 33 ∨ s4 = 40 → ∀ n, xF 176 (xw d) P n 64 [(4, .int s4), (3, .int 0), (2, .int 1), (1, .int s), (0, .ref 314)] [] m6 → ∃ rv m', P rv m' ∧ rv = none ∧ mO N u (p3 + 1) 0 [.clz] m' := by
        intro hs4 n H
        have hq4 : stP N (tt u) .clz (p3 + 1) = .inl ([.cond 0, .tok 63, .sum 0], p4) := by rw [hst4, st_clz2, if_pos hs4]
        replace H := f_aload_n H k176_64 rfl
        replace H := f_iconst H k176_65 (v := 0) (by decide)
        replace H := f_iconst H k176_66 (v := 0) (by decide)
        obtain ⟨rv, m7, ⟨⟨a, rfl⟩, ho⟩, h9_67⟩ := f_inv H k176_67 (by decide +kernel) (as := [.int _, .int _]) (b := 314) (r := []) (by rfl) (c_mcondA hm6)
        replace H := h9_67
        rw [if_pos rfl] at ho
        replace H := f_istore_n H k176_70 (l2 := [(2, .int _), (4, .int s4), (3, .int 0), (1, .int s), (0, .ref 314)]) rfl
        obtain ⟨rv, m8, hP, hv, ho8⟩ := ques _ _ _ _ _ 0 a s4 s _ (Or.inl rfl) (Or.inl rfl) ho (Nat.le_refl _) (f_ext H (l' := [(3, .int 0), (2, .int a), (4, .int s4), (1, .int s), (0, .ref 314)]) (lE_cons rfl (lE_cons rfl (lE_cons rfl (lE_cons rfl (lE_cons rfl lE_nil))))) rfl rfl)
        refine ⟨rv, m8, hP, hv, ?_⟩
        rcases ho8 with ⟨h8, q4, q5, q6⟩ | ⟨x, q4, q5, q6⟩
        · exact Or.inl ⟨h8, q4, by omega, Rok_go hq4 q6⟩
        · exact Or.inr ⟨x, q4, q5, Rno_go hq4 q6⟩
      replace H := f_istore H k176_48 (l2 := [(4, .int _), (3, .int 0), (2, .int 1), (1, .int _), (0, .ref 314)]) rfl
      replace H := f_iload H k176_50 rfl
      replace H := f_bipush H k176_52 (v := 33) (by decide)
      have Hbr := f_icmp_eq H k176_54 (t := 64) (by decide)
      clear H
      rcases Hbr with ⟨c1, H⟩ | ⟨c1, H⟩
      · exact cnd (Or.inl c1) _ H
      replace H := f_iload H k176_57 rfl
      replace H := f_bipush H k176_59 (v := 40) (by decide)
      have Hbr := f_icmp_ne H k176_61 (t := 89) (by decide)
      clear H
      rcases Hbr with ⟨c2, H⟩ | ⟨c2, H⟩
      · have hq4 : stP N (tt u) .clz (p3 + 1) = .inl ([.sum 0, .clq], p4) := by rw [hst4, st_clz2, if_neg (fun z => z.elim c1 c2)]
        have up3 : (∃ rv m', P rv m' ∧ rv = none ∧ mO N u p4 0 [.sum 0, .clq] m') → ∃ rv m', P rv m' ∧ rv = none ∧ mO N u (p3 + 1) 0 [.clz] m' := by
          rintro ⟨rv, m', hP, hv, ho⟩
          refine ⟨rv, m', hP, hv, ?_⟩
          rcases ho with ⟨h8, q4, q5, q6⟩ | ⟨x, q4, q5, q6⟩
          · exact Or.inl ⟨h8, q4, by omega, Rok_go hq4 q6⟩
          · exact Or.inr ⟨x, q4, q5, Rno_go hq4 q6⟩
        refine up3 ?_
        replace H := f_aload_n H k176_89 rfl
        obtain ⟨rv, m7, ⟨⟨a, rfl⟩, ho⟩, h9_90⟩ := f_inv H k176_90 (by decide +kernel) (as := []) (b := 314) (r := []) (by rfl) (c_msumA hm6)
        replace H := h9_90
        replace H := f_istore_n H k176_93 (l2 := [(3, .int _), (4, .int _), (2, .int 1), (1, .int _), (0, .ref 314)]) rfl
        replace H := f_aload_n H k176_94 rfl
        replace H := f_gi H k176_95 (ci := 12) (f := 11) (by decide +kernel) (by decide)
        replace H := f_iconst H k176_98 (v := -1) (by decide)
        rcases ho with ⟨h5, hm7, hle5, hok⟩ | ⟨x, hx, hxN, hno⟩
        · have hh5 : h5 ≤ N := hm7.2.2.2.2.2.2.2.2.2.2.1
          have hp5 : sk N (tt u) h5 ≤ N := sk_le hh5
          have hge5 : h5 ≤ sk N (tt u) h5 := sk_ge
          have hst5 : ∀ i, stP N (tt u) i h5 = stI N (tt u) h5 (sk N (tt u) h5) (atv N (tt u) (sk N (tt u) h5)) i := fun i => rfl
          replace H := f_icmp_ne_f H k176_99 hm7.2.2.2.2.2.1
          replace H := f_aload_n H k176_102 rfl
          obtain ⟨rv, m8, ⟨rfl, e9⟩, h9_103⟩ := f_inv H k176_103 (by decide +kernel) (as := []) (b := 314) (r := []) (by rfl) (c_look hm7)
          replace H := h9_103
          have hm8 : mS m8 N (sk N (tt u) h5) 0 u := by rw [e9]; exact mS_h hm7 hp5
          clear e9
          generalize sk N (tt u) h5 = p5 at *
          generalize hse5 : atv N (tt u) p5 = s5 at *
          obtain ⟨rv, m9, ⟨hz5, rfl⟩, h9_106⟩ := f_ins H k176_106 (by decide +kernel) (as := [.int _]) (r := []) (by rfl) (c_isSign)
          replace H := h9_106
          rcases hz5 with ⟨hz5, rfl⟩ | ⟨hz5, rfl⟩
          · have hq5 : stP N (tt u) .clq h5 = .inl ([.condB 0, .tok 63, .sum 0], p5) := by rw [hst5, st_clq2, if_pos hz5]
            replace H := f_if_eq_f H k176_109 (by decide)
            replace H := f_aload_n H k176_112 rfl
            replace H := f_iconst H k176_113 (v := 1) (by decide)
            replace H := f_iload_n H k176_114 rfl
            obtain ⟨rv, m10, ⟨⟨a2, rfl⟩, ho⟩, h9_115⟩ := f_inv H k176_115 (by decide +kernel) (as := [.int _, .int _]) (b := 314) (r := []) (by rfl) (c_mcondA hm8)
            replace H := h9_115
            rw [if_neg (by decide)] at ho
            replace H := f_istore_n H k176_118 (l2 := [(2, .int _), (3, .int _), (4, .int _), (1, .int _), (0, .ref 314)]) rfl
            obtain ⟨rv, m11, hP, hv, ho8⟩ := ques _ _ _ _ _ a a2 s4 s _ (Or.inr rfl) (Or.inr rfl) ho (Nat.le_refl _) (f_ext H (l' := [(3, .int a), (2, .int a2), (4, .int s4), (1, .int s), (0, .ref 314)]) (lE_cons rfl (lE_cons rfl (lE_cons rfl (lE_cons rfl (lE_cons rfl lE_nil))))) rfl rfl)
            refine ⟨rv, m11, hP, hv, ?_⟩
            rcases ho8 with ⟨h8, q4, q5, q6⟩ | ⟨x, q4, q5, q6⟩
            · exact Or.inl ⟨h8, q4, by omega, Rok_app (is := [.sum 0]) (js := [.clq]) hok (Rok_go hq5 q6)⟩
            · exact Or.inr ⟨x, q4, q5, Rno_app2 (is := [.sum 0]) (js := [.clq]) hok (Rno_go hq5 q6)⟩
          · have hq5 : stP N (tt u) .clq h5 = .inl ([], p5) := by rw [hst5, st_clq2, if_neg hz5]
            replace H := f_if_eq_t H k176_109 rfl (t := 134) (by decide)
            exact fin _ _ p4 [.sum 0, .clq] a 1 s4 s (Or.inl ⟨p5, hm8, by omega, Rok_app (is := [.sum 0]) (js := [.clq]) hok (Rok_go (is := []) hq5 Rok_nil)⟩) (f_ext H (l' := [(3, .int a), (2, .int 1), (4, .int s4), (1, .int s), (0, .ref 314)]) (lE_cons rfl (lE_cons rfl (lE_cons rfl (lE_cons rfl (lE_cons rfl lE_nil))))) rfl rfl)
        · replace H := f_icmp_ne_t H k176_99 (by rw [hx]; exact nI_n1 hxN hN) (t := 134) (by decide)
          exact fin _ _ p4 [.sum 0, .clq] a 1 s4 s (Or.inr ⟨x, hx, hxN, Rno_app1 (js := [.clq]) hno⟩) (f_ext H (l' := [(3, .int a), (2, .int 1), (4, .int s4), (1, .int s), (0, .ref 314)]) (lE_cons rfl (lE_cons rfl (lE_cons rfl (lE_cons rfl (lE_cons rfl lE_nil))))) rfl rfl)
      · exact cnd (Or.inr c2) _ H
    · replace H := f_if_ne_f H k176_36 rfl
      replace H := f_ret H k176_39
      exact ⟨_, _, H, rfl, Or.inr ⟨_, hw, hp3, Rno_go hcl (Rno_app2 (is := [.tok 121]) (js := [.tok 58, .clz]) (Rok_go (is := []) hq1 Rok_nil) (Rno_app1 (is := [.tok 58]) (js := [.clz]) (Rno_bad (by unfold stP; rw [st_tok, if_neg ha]))))⟩⟩
  · replace H := f_if_ne_f H k176_11 rfl
    replace H := f_aload_n H k176_14 rfl
    obtain ⟨rv, m', ⟨rfl, rfl⟩, h9_15⟩ := f_inv H k176_15 (by decide +kernel) (as := []) (b := 314) (r := []) (by rfl) (c_mfails hm1.2.2.2.2.2.1 hm1.2.2.2.2.1)
    replace H := h9_15
    replace H := f_pop H k176_18
    replace H := f_ret H k176_19
    exact ⟨_, _, H, rfl, Or.inr ⟨p, mI_at, hp, Rno_go hcl (Rno_app1 (is := [.tok 121]) (js := [.tok 58, .clz]) (Rno_bad (by rw [hst, st_tok, if_neg hz])))⟩⟩
theorem rS_t {m : xM} {b : Option Nat} (hr : rS m) : rS (mR m 314 5 b) := by
  intro a i c h
  show (if a = 314 then (if i = 5 then b else m.2.2 a i) else m.2.2 a i) = _
  by_cases h1 : a = 314
  · by_cases h2 : i = 5
    · rw [h1, h2] at h
      exact absurd (show (none : Option Nat) = some c from h) (by simp)
    · rw [if_pos h1, if_neg h2]; exact hr a i c h
  · rw [if_neg h1]; exact hr a i c h
theorem mR_at {m : xM} {a i : Nat} {b : Option Nat} : (mR m a i b).2.2 a i = b := by show (if a = a then (if i = i then b else _) else _) = b; rw [if_pos rfl, if_pos rfl]
/-- the start of a reading of the tape -/
theorem c_starts {m : xM} {N : Nat} {u : Nat → Int32} (hr : rS m) (hu : m.1 315 = u) (hb : ∀ i, byR (u i)) (hN : N ≤ 240) : fC 177 [.ref 314, .ref 315, .int 0, .int (nI N)] m (fun rv m' => rv = none ∧ ∀ v, mS (mI m' 314 12 v) N 0 0 u ∨ v ≠ 0) := by
  refine fC_of (by decide) (fun d n P H => ?_)
  replace H := f_aload_n H k177_0 rfl
  replace H := f_aload_n H k177_1 rfl
  replace H := f_put_r H k177_2 (ci := 12) (f := 5) (by decide +kernel) (by decide)
  replace H := f_aload_n H k177_5 rfl
  replace H := f_iload_n H k177_6 rfl
  replace H := f_put_i H k177_7 (ci := 12) (f := 8) (by decide +kernel) (by decide)
  replace H := f_aload_n H k177_10 rfl
  replace H := f_iload_n H k177_11 rfl
  replace H := f_put_i H k177_12 (ci := 12) (f := 9) (by decide +kernel) (by decide)
  replace H := f_aload_n H k177_15 rfl
  replace H := f_iconst H k177_16 (v := 0) (by decide)
  replace H := f_put_i H k177_17 (ci := 12) (f := 10) (by decide +kernel) (by decide)
  replace H := f_aload_n H k177_20 rfl
  replace H := f_iconst H k177_21 (v := -1) (by decide)
  replace H := f_put_i H k177_22 (ci := 12) (f := 11) (by decide +kernel) (by decide)
  replace H := f_ret H k177_25
  refine ⟨_, _, H, rfl, fun v => ?_⟩
  by_cases hv : v = 0
  · left
    rw [hv]
    refine ⟨rS_t hr, mR_at, ?_, ?_, ?_, ?_, mI_at, ?_, hb, hN, Nat.zero_le _, by omega⟩
    · rw [mI_ne (by omega), mI_ne (by omega), mI_ne (by omega), mI_ne (by omega)]; exact mI_at
    · rw [mI_ne (by omega), mI_ne (by omega), mI_ne (by omega)]; exact mI_at
    · rw [mI_ne (by omega), mI_ne (by omega)]; exact mI_at
    · rw [mI_ne (by omega)]; exact mI_at
    · rw [← hu]; exact funext fun j => by rw [mI_ne (by omega), mI_ne (by omega), mI_ne (by omega), mI_ne (by omega), mI_ne (by omega)]; rfl
  · exact Or.inr hv
/-- the reference's reading of a law's text: nothing is wrong, or where it fails -/
def mlO (N : Nat) (u : Nat → Int32) (m' : xM) : Prop := (m'.1 314 11 = -1 ∧ ∃ h2, Rok N (tt u) [.law] 0 h2) ∨ ∃ w, m'.1 314 11 = nI w ∧ w ≤ N ∧ Rno N (tt u) [.law] 0 w
set_option maxHeartbeats 4000000 in
theorem c_goThrough {m : xM} {N : Nat} {u : Nat → Int32} (hr : rS m) (hu : m.1 315 = u) (hb : ∀ i, byR (u i)) (hN : N ≤ 240) : fC 178 [.ref 314, .ref 315, .int 0, .int (nI N)] m (fun rv m' => rv = none ∧ mlO N u m') := by
  refine fC_of (by decide) (fun d n P H => ?_)
  have hlaw : stP N (tt u) .law 0 = .inl ([.clause, .lawL], 0) := rfl
  have hL : ∀ h, stP N (tt u) .lawL h = stI N (tt u) h (sk N (tt u) h) (atv N (tt u) (sk N (tt u) h)) .lawL := fun h => rfl
  -- the end, where something is wrong
  have bad : ∀ n m2 w l, lE [(0, .ref 314)] l → m2.1 314 11 = nI w → w ≤ N → xF 178 (xw d) P n 66 [(0, .ref 314), (1, .ref 315), (2, .int 0), (3, .int (nI N))] [] m2 → P none m2 := by
    intro n m2 w l _ hw hwN H
    replace H := f_aload_n H k178_66 rfl
    replace H := f_gi H k178_67 (ci := 12) (f := 11) (by decide +kernel) (by decide)
    replace H := f_iconst H k178_70 (v := -1) (by decide)
    replace H := f_icmp_ne_t H k178_71 (by rw [hw]; exact nI_n1 hwN hN) (t := 87) (by decide)
    replace H := f_ret H k178_87
    exact H
  have key : ∀ n h2 m2, mO N u h2 0 [.clause] m2 → xF 178 (xw d) P (n + 1) 32 [(0, .ref 314), (1, .ref 315), (2, .int 0), (3, .int (nI N))] [] m2 → ∃ rv m', P rv m' ∧ rv = none ∧ ((m'.1 314 11 = -1 ∧ ∃ h9, Rok N (tt u) [.clause, .lawL] h2 h9) ∨ ∃ w, m'.1 314 11 = nI w ∧ w ≤ N ∧ Rno N (tt u) [.clause, .lawL] h2 w) := by
    intro n
    induction n with
    | zero => exact fun h2 m2 _ H => (xF_0 (f1_aload_n H k178_32 rfl)).elim
    | succ n ih =>
      intro h2 m2 ho H
      replace H := f1_aload_n H k178_32 rfl
      replace H := f_gi H k178_33 (ci := 12) (f := 11) (by decide +kernel) (by decide)
      replace H := f_iconst H k178_36 (v := -1) (by decide)
      rcases ho with ⟨h3, hm3, hle, hok⟩ | ⟨x, hx, hxN, hno⟩
      · have hh3 : h3 ≤ N := hm3.2.2.2.2.2.2.2.2.2.2.1
        have hp : sk N (tt u) h3 ≤ N := sk_le hh3
        have hsk : sk N (tt u) (sk N (tt u) h3) = sk N (tt u) h3 := sk_sk hh3
        have hst := hL h3
        replace H := f_icmp_ne_f H k178_37 hm3.2.2.2.2.2.1
        replace H := f_aload_n H k178_40 rfl
        obtain ⟨rv, m4, ⟨rfl, e9⟩, h9_41⟩ := f_inv H k178_41 (by decide +kernel) (as := []) (b := 314) (r := []) (by rfl) (c_look hm3)
        replace H := h9_41
        have hm4 : mS m4 N (sk N (tt u) h3) 0 u := by rw [e9]; exact mS_h hm3 hp
        clear e9
        generalize sk N (tt u) h3 = p at *
        have hlt : atv N (tt u) p ≠ -1 → p < N := fun z => by
          by_cases h9 : p < N
          · exact h9
          · exact absurd (atv_e h9) z
        generalize hse : atv N (tt u) p = s at *
        replace H := f_bipush H k178_44 (v := 59) (by decide)
        have Hbr := f_icmp_ne H k178_46 (t := 66) (by decide)
        clear H
        rcases Hbr with ⟨c, H⟩ | ⟨c, H⟩
        · replace H := f_aload_n H k178_66 rfl
          replace H := f_gi H k178_67 (ci := 12) (f := 11) (by decide +kernel) (by decide)
          replace H := f_iconst H k178_70 (v := -1) (by decide)
          replace H := f_icmp_ne_f H k178_71 hm4.2.2.2.2.2.1
          replace H := f_aload_n H k178_74 rfl
          have e4 : m4 = mI m4 314 10 (nI p) := (mI_self hm4.2.2.2.2.1).symm
          obtain ⟨rv, m5, ⟨rfl, rfl⟩, h9_75⟩ := f_inv H k178_75 (by decide +kernel) (as := []) (b := 314) (r := []) (by rfl) (c_look hm4)
          replace H := h9_75
          rw [hsk, hse, ← e4] at H
          replace H := f_iconst H k178_78 (v := -1) (by decide)
          have Hbr := f_icmp_eq H k178_79 (t := 87) (by decide)
          clear H
          rcases Hbr with ⟨c2, H⟩ | ⟨c2, H⟩
          · replace H := f_ret H k178_87
            refine ⟨_, _, H, rfl, Or.inl ⟨hm4.2.2.2.2.2.1, p, Rok_app (is := [.clause]) (js := [.lawL]) hok (Rok_go (is := []) ?_ Rok_nil)⟩⟩
            rw [hst, st_lawL2, if_pos c2]
          · replace H := f_aload_n H k178_82 rfl
            obtain ⟨rv, m', ⟨rfl, rfl⟩, h9_83⟩ := f_inv H k178_83 (by decide +kernel) (as := []) (b := 314) (r := []) (by rfl) (c_mfails hm4.2.2.2.2.2.1 hm4.2.2.2.2.1)
            replace H := h9_83
            replace H := f_pop H k178_86
            replace H := f_ret H k178_87
            refine ⟨_, _, H, rfl, Or.inr ⟨p, mI_at, hp, Rno_app2 (is := [.clause]) (js := [.lawL]) hok (Rno_bad ?_)⟩⟩
            rw [hst, st_lawL2, if_neg c2, if_neg c]
        · have hpN : p < N := hlt (fun z => by rw [z] at c; exact absurd c (by decide))
          have hq : stP N (tt u) .lawL h3 = .inl ([.clause, .lawL], p + 1) := by rw [hst, st_lawL2, if_neg (fun z => by rw [z] at c; exact absurd c (by decide)), if_pos c]
          replace H := f_aload_n H k178_49 rfl
          replace H := f_dup H k178_50
          replace H := f_gi H k178_51 (ci := 12) (f := 10) (by decide +kernel) (by decide)
          replace H := f_iconst H k178_54 (v := 1) (by decide)
          replace H := f_iadd H k178_55
          replace H := f_put_i H k178_56 (ci := 12) (f := 10) (by decide +kernel) (by decide)
          replace H := f_aload_n H k178_59 rfl
          rw [hm4.2.2.2.2.1, nI_s] at H
          obtain ⟨rv, m5, ⟨rfl, ho⟩, h9_60⟩ := f_inv H k178_60 (by decide +kernel) (as := []) (b := 314) (r := []) (by rfl) (c_mclause (mS_h hm4 hpN))
          replace H := h9_60
          replace H := f_goto H k178_63 (t := 32) (by decide)
          obtain ⟨rv, m6, hP, hv, ho⟩ := ih (p + 1) m5 ho H
          refine ⟨rv, m6, hP, hv, ?_⟩
          rcases ho with ⟨e1, h9, q⟩ | ⟨w, e1, q1, q⟩
          · exact Or.inl ⟨e1, h9, Rok_app (is := [.clause]) (js := [.lawL]) hok (Rok_go hq q)⟩
          · exact Or.inr ⟨w, e1, q1, Rno_app2 (is := [.clause]) (js := [.lawL]) hok (Rno_go hq q)⟩
      · replace H := f_icmp_ne_t H k178_37 (by rw [hx]; exact nI_n1 hxN hN) (t := 66) (by decide)
        exact ⟨_, _, bad _ _ x [(0, .ref 314)] (fun _ _ h => h) hx hxN H, rfl, Or.inr ⟨x, hx, hxN, Rno_app1 (js := [.lawL]) hno⟩⟩
  replace H := f_aload_n H k178_0 rfl
  replace H := f_aload_n H k178_1 rfl
  replace H := f_iload_n H k178_2 rfl
  replace H := f_iload_n H k178_3 rfl
  obtain ⟨rv, m1, ⟨rfl, hs⟩, h9_4⟩ := f_inv H k178_4 (by decide +kernel) (as := [.ref 315, .int _, .int _]) (b := 314) (r := []) (by rfl) (c_starts hr hu hb hN)
  replace H := h9_4
  replace H := f_aload_n H k178_7 rfl
  replace H := f_bipush H k178_8 (v := 121) (by decide)
  replace H := f_put_i H k178_10 (ci := 12) (f := 13) (by decide +kernel) (by decide)
  replace H := f_aload_n H k178_13 rfl
  replace H := f_iconst H k178_14 (v := 0) (by decide)
  replace H := f_put_i H k178_15 (ci := 12) (f := 12) (by decide +kernel) (by decide)
  replace H := f_aload_n H k178_18 rfl
  replace H := f_iconst H k178_19 (v := 0) (by decide)
  replace H := f_put_b H k178_20 (ci := 12) (f := 17) (by decide +kernel) (by decide)
  replace H := f_aload_n H k178_23 rfl
  replace H := f_iconst H k178_24 (v := 0) (by decide)
  replace H := f_put_i H k178_25 (ci := 12) (f := 14) (by decide +kernel) (by decide)
  have hs0 := (hs 0).resolve_right (fun z => z rfl)
  have hm2 : mS (mI (mI (mI (mI m1 314 13 121) 314 12 0) 314 17 0) 314 14 0) N 0 0 u := by
    have e : mI (mI m1 314 13 121) 314 12 0 = mI (mI m1 314 12 0) 314 13 121 := by
      refine Prod.ext (funext fun b => funext fun j => ?_) rfl
      show (if b = 314 then (if j = 12 then _ else (if b = 314 then (if j = 13 then _ else _) else _)) else (if b = 314 then (if j = 13 then _ else _) else _)) = (if b = 314 then (if j = 13 then _ else (if b = 314 then (if j = 12 then _ else _) else _)) else (if b = 314 then (if j = 12 then _ else _) else _))
      by_cases h1 : b = 314
      · by_cases h2 : j = 12
        · simp [h1, h2]
        · simp [h1, h2]
      · simp [h1]
    rw [e]
    exact mS_o (mS_o (mS_o hs0 (by omega)) (by omega)) (by omega)
  replace H := f_aload_n H k178_28 rfl
  obtain ⟨rv, m3, ⟨rfl, ho⟩, h9_29⟩ := f_inv H k178_29 (by decide +kernel) (as := []) (b := 314) (r := []) (by rfl) (c_mclause hm2)
  replace H := h9_29
  obtain ⟨rv, m6, hP, hv, ho⟩ := key n 0 m3 ho (f_up H (Nat.le_succ _))
  refine ⟨rv, m6, hP, hv, ?_⟩
  rcases ho with ⟨e1, h9, q⟩ | ⟨w, e1, q1, q⟩
  · exact Or.inl ⟨e1, h9, Rok_go hlaw q⟩
  · exact Or.inr ⟨w, e1, q1, Rno_go hlaw q⟩
