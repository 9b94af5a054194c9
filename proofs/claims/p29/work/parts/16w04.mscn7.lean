theorem k210_0 : lkc 0 (kcode 210) = some (.aload_n 0) := by decide +kernel
theorem k210_1 : lkc 1 (kcode 210) = some (.getfield 292) := by decide +kernel
theorem k210_4 : lkc 4 (kcode 210) = some (.bipush 40) := by decide +kernel
theorem k210_6 : lkc 6 (kcode 210) = some (.if_icmp .ne 44) := by decide +kernel
theorem k210_9 : lkc 9 (kcode 210) = some (.iconst 0) := by decide +kernel
theorem k210_10 : lkc 10 (kcode 210) = some (.istore_n 1) := by decide +kernel
theorem k210_11 : lkc 11 (kcode 210) = some (.iload_n 1) := by decide +kernel
theorem k210_12 : lkc 12 (kcode 210) = some (.sipush 8112) := by decide +kernel
theorem k210_15 : lkc 15 (kcode 210) = some (.if_icmp .ge 25) := by decide +kernel
theorem k210_18 : lkc 18 (kcode 210) = some (.aload_n 0) := by decide +kernel
theorem k210_19 : lkc 19 (kcode 210) = some (.getfield 81) := by decide +kernel
theorem k210_22 : lkc 22 (kcode 210) = some (.iload_n 1) := by decide +kernel
theorem k210_23 : lkc 23 (kcode 210) = some (.aload_n 0) := by decide +kernel
theorem k210_24 : lkc 24 (kcode 210) = some (.getfield 81) := by decide +kernel
theorem k210_27 : lkc 27 (kcode 210) = some (.iload_n 1) := by decide +kernel
theorem k210_28 : lkc 28 (kcode 210) = some (.sipush 208) := by decide +kernel
theorem k210_31 : lkc 31 (kcode 210) = some (.iadd) := by decide +kernel
theorem k210_32 : lkc 32 (kcode 210) = some (.iaload) := by decide +kernel
theorem k210_33 : lkc 33 (kcode 210) = some (.iastore) := by decide +kernel
theorem k210_34 : lkc 34 (kcode 210) = some (.iinc 1 1) := by decide +kernel
theorem k210_37 : lkc 37 (kcode 210) = some (.goto (-26)) := by decide +kernel
theorem k210_40 : lkc 40 (kcode 210) = some (.aload_n 0) := by decide +kernel
theorem k210_41 : lkc 41 (kcode 210) = some (.dup) := by decide +kernel
theorem k210_42 : lkc 42 (kcode 210) = some (.getfield 292) := by decide +kernel
theorem k210_45 : lkc 45 (kcode 210) = some (.iconst 1) := by decide +kernel
theorem k210_46 : lkc 46 (kcode 210) = some (.isub) := by decide +kernel
theorem k210_47 : lkc 47 (kcode 210) = some (.putfield 292) := by decide +kernel
theorem k210_50 : lkc 50 (kcode 210) = some (.iconst 0) := by decide +kernel
theorem k210_51 : lkc 51 (kcode 210) = some (.istore_n 1) := by decide +kernel
theorem k210_52 : lkc 52 (kcode 210) = some (.iload_n 1) := by decide +kernel
theorem k210_53 : lkc 53 (kcode 210) = some (.sipush 208) := by decide +kernel
theorem k210_56 : lkc 56 (kcode 210) = some (.if_icmp .ge 30) := by decide +kernel
theorem k210_59 : lkc 59 (kcode 210) = some (.aload_n 0) := by decide +kernel
theorem k210_60 : lkc 60 (kcode 210) = some (.getfield 81) := by decide +kernel
theorem k210_63 : lkc 63 (kcode 210) = some (.sipush 208) := by decide +kernel
theorem k210_66 : lkc 66 (kcode 210) = some (.aload_n 0) := by decide +kernel
theorem k210_67 : lkc 67 (kcode 210) = some (.getfield 292) := by decide +kernel
theorem k210_70 : lkc 70 (kcode 210) = some (.imul) := by decide +kernel
theorem k210_71 : lkc 71 (kcode 210) = some (.iload_n 1) := by decide +kernel
theorem k210_72 : lkc 72 (kcode 210) = some (.iadd) := by decide +kernel
theorem k210_73 : lkc 73 (kcode 210) = some (.aload_n 0) := by decide +kernel
theorem k210_74 : lkc 74 (kcode 210) = some (.getfield 58) := by decide +kernel
theorem k210_77 : lkc 77 (kcode 210) = some (.iload_n 1) := by decide +kernel
theorem k210_78 : lkc 78 (kcode 210) = some (.iaload) := by decide +kernel
theorem k210_79 : lkc 79 (kcode 210) = some (.iastore) := by decide +kernel
theorem k210_80 : lkc 80 (kcode 210) = some (.iinc 1 1) := by decide +kernel
theorem k210_83 : lkc 83 (kcode 210) = some (.goto (-31)) := by decide +kernel
theorem k210_86 : lkc 86 (kcode 210) = some (.aload_n 0) := by decide +kernel
theorem k210_87 : lkc 87 (kcode 210) = some (.dup) := by decide +kernel
theorem k210_88 : lkc 88 (kcode 210) = some (.getfield 292) := by decide +kernel
theorem k210_91 : lkc 91 (kcode 210) = some (.iconst 1) := by decide +kernel
theorem k210_92 : lkc 92 (kcode 210) = some (.iadd) := by decide +kernel
theorem k210_93 : lkc 93 (kcode 210) = some (.putfield 292) := by decide +kernel
theorem k210_96 : lkc 96 (kcode 210) = some (.return_) := by decide +kernel
/-! forward: rows kept and taken back (the reference) -/
def rmO (h : Nat) (m m' : xM) : Prop := m'.2 = m.2 ∧ (∀ a i, a ≠ 331 → ¬ (a = 314 ∧ i = 42) → m'.1 a i = m.1 a i) ∧ m'.1 314 42 = nI (min (h + 1) 40) ∧ (h < 40 → (∀ i, i < 208 * h → m'.1 331 i = m.1 331 i) ∧ ∀ k, k < 208 → m'.1 331 (208 * h + k) = m.1 326 k) ∧ (h = 40 → (∀ i, i < 8112 → m'.1 331 i = m.1 331 (i + 208)) ∧ ∀ k, k < 208 → m'.1 331 (8112 + k) = m.1 326 k)
set_option maxHeartbeats 2000000 in
theorem c_remember {m : xM} {h : Nat} (hr : rS m) (hh : m.1 314 42 = nI h) (hh4 : h ≤ 40) : fC 210 [.ref 314] m (fun rv m' => rv = none ∧ rmO h m m') := by
  refine fC_of (by decide) (fun d n P H => ?_)
  -- the row written at r rows, over the memory m1
  have cp : ∀ n k r (m1 m2 : xM), k ≤ 208 → r < 40 → rS m2 → m2.2 = m1.2 → m2.1 314 42 = nI r → (∀ a i, a ≠ 331 → m2.1 a i = m1.1 a i) → (∀ i, ¬ (208 * r ≤ i ∧ i < 208 * r + k) → m2.1 331 i = m1.1 331 i) → (∀ j, j < k → m2.1 331 (208 * r + j) = m1.1 326 j) → (∀ m', m'.2 = m1.2 → m'.1 314 42 = nI (r + 1) → (∀ a i, a ≠ 331 → ¬ (a = 314 ∧ i = 42) → m'.1 a i = m1.1 a i) → (∀ i, ¬ (208 * r ≤ i ∧ i < 208 * r + 208) → m'.1 331 i = m1.1 331 i) → (∀ j, j < 208 → m'.1 331 (208 * r + j) = m1.1 326 j) → rmO h m m') → xF 210 (xw d) P n 52 [(1, .int (nI k)), (0, .ref 314)] [] m2 → ∃ rv m', P rv m' ∧ rv = none ∧ rmO h m m' := by
    intro n
    induction n with
    | zero => exact fun k r m1 m2 _ _ _ _ _ _ _ _ _ H => (xF_0 H).elim
    | succ n ih =>
      intro k r m1 m2 hk hr4 hr e0 e1 e2 e3 e4 kk H
      replace H := f1_iload_n H k210_52 rfl
      replace H := f_sipush H k210_53 (v := 208) (by decide)
      rw [show (208 : Int32) = nI 208 from rfl] at H
      have Hbr := f_icmp_ge H k210_56 (t := 86) (by decide)
      clear H
      rcases Hbr with ⟨k0, H⟩ | ⟨k0, H⟩
      · rw [nxle (by omega) (by omega)] at k0
        have ek : k = 208 := by omega
        subst ek
        replace H := f_aload_n H k210_86 rfl
        replace H := f_dup H k210_87
        replace H := f_gi H k210_88 (ci := 12) (f := 42) (by decide +kernel) (by decide)
        replace H := f_iconst H k210_91 (v := 1) (by decide)
        replace H := f_iadd H k210_92
        replace H := f_put_i H k210_93 (ci := 12) (f := 42) (by decide +kernel) (by decide)
        rw [e1, nI_s] at H
        replace H := f_ret H k210_96
        exact ⟨_, _, H, rfl, kk _ e0 mI_at (fun a i q1 q2 => by rw [mI_ne q2]; exact e2 a i q1) (fun i q => by rw [mI_ne (by omega)]; exact e3 i q) (fun j hj => by rw [mI_ne (by omega)]; exact e4 j hj)⟩
      · rw [nxle (by omega) (by omega)] at k0
        replace H := f_aload_n H k210_59 rfl
        replace H := f_gr H k210_60 (ci := 12) (f := 41) (x := 331) (by decide +kernel) (by decide) (hr 314 41 331 rfl)
        replace H := f_sipush H k210_63 (v := 208) (by decide)
        replace H := f_aload_n H k210_66 rfl
        replace H := f_gi H k210_67 (ci := 12) (f := 42) (by decide +kernel) (by decide)
        replace H := f_imul H k210_70
        replace H := f_iload_n H k210_71 rfl
        replace H := f_iadd H k210_72
        replace H := f_aload_n H k210_73 rfl
        replace H := f_gr H k210_74 (ci := 12) (f := 32) (x := 326) (by decide +kernel) (by decide) (hr 314 32 326 rfl)
        replace H := f_iload_n H k210_77 rfl
        have Hob := f_iald H k210_78 (c := 208) (by decide)
        clear H
        obtain ⟨hb78, H⟩ := Hob
        have Hob := f_iast H k210_79 (c := 8320) (by decide)
        clear H
        obtain ⟨hb79, H⟩ := Hob
        replace H := f_iinc H k210_80 rfl (l2 := [(1, .int (nI k + 1)), (0, .ref 314)]) rfl
        replace H := f_goto H k210_83 (t := 52) (by decide)
        rw [e1, show (208 : Int32) = nI 208 from rfl, nI_mul, r_ad, nI_clamp (by omega), nI_clamp (by omega), nI_s, e2 326 k (by omega)] at H
        refine ih (k + 1) r m1 (mI m2 331 (208 * r + k) _) (by omega) hr4 hr e0 (by rw [mI_ne (by omega)]; exact e1) (fun a i q => by rw [mI_ne (by omega)]; exact e2 a i q) (fun i q => ?_) (fun j hj => ?_) kk H
        · rw [mI_ne (by omega)]; exact e3 i (by omega)
        · by_cases c : j = k
          · subst c
            rw [mI_at]
          · rw [mI_ne (by omega)]; exact e4 j (by omega)
  have sh : ∀ n k (m2 : xM), k ≤ 8112 → h = 40 → rS m2 → m2.2 = m.2 → (∀ a i, a ≠ 331 → m2.1 a i = m.1 a i) → (∀ i, k ≤ i → m2.1 331 i = m.1 331 i) → (∀ i, i < k → m2.1 331 i = m.1 331 (i + 208)) → xF 210 (xw d) P n 11 [(1, .int (nI k)), (0, .ref 314)] [] m2 → ∃ rv m', P rv m' ∧ rv = none ∧ rmO h m m' := by
    intro n
    induction n with
    | zero => exact fun k m2 _ _ _ _ _ _ _ H => (xF_0 H).elim
    | succ n ih =>
      intro k m2 hk h40 hr e0 e2 e3 e4 H
      replace H := f1_iload_n H k210_11 rfl
      replace H := f_sipush H k210_12 (v := 8112) (by decide)
      rw [show (8112 : Int32) = nI 8112 from rfl] at H
      have Hbr := f_icmp_ge H k210_15 (t := 40) (by decide)
      clear H
      rcases Hbr with ⟨k0, H⟩ | ⟨k0, H⟩
      · rw [nxle (by omega) (by omega)] at k0
        have ek : k = 8112 := by omega
        subst ek
        replace H := f_aload_n H k210_40 rfl
        replace H := f_dup H k210_41
        replace H := f_gi H k210_42 (ci := 12) (f := 42) (by decide +kernel) (by decide)
        replace H := f_iconst H k210_45 (v := 1) (by decide)
        replace H := f_isub H k210_46
        replace H := f_put_i H k210_47 (ci := 12) (f := 42) (by decide +kernel) (by decide)
        rw [e2 314 42 (by omega), hh, h40, show nI 40 - 1 = nI 39 by decide] at H
        replace H := f_iconst H k210_50 (v := 0) (by decide)
        replace H := f_istore_n H k210_51 (l2 := [(1, .int 0), (0, .ref 314)]) rfl
        have K : ∀ a i, ¬ (a = 314 ∧ i = 42) → (mI m2 314 42 (nI 39)).1 a i = m2.1 a i := fun a i q => mI_ne q
        refine cp n 0 39 (mI m2 314 42 (nI 39)) (mI m2 314 42 (nI 39)) (Nat.zero_le _) (by omega) hr rfl mI_at (fun _ _ _ => rfl) (fun _ _ => rfl) (fun j hj => absurd hj (Nat.not_lt_zero _)) (fun m' q0 q1 q2 q3 q4 => ?_) H
        refine ⟨q0.trans e0, fun a i z1 z2 => ?_, ?_, fun z => absurd z (by omega), fun _ => ⟨fun i hi => ?_, fun j hj => ?_⟩⟩
        · rw [q2 a i z1 z2, K a i z2]; exact e2 a i z1
        · rw [q1, h40]; rfl
        · rw [q3 i (by omega), K _ _ (by omega)]; exact e4 i hi
        · rw [show 8112 + j = 208 * 39 + j by omega, q4 j hj, K _ _ (by omega)]; exact e2 326 j (by omega)
      · rw [nxle (by omega) (by omega)] at k0
        replace H := f_aload_n H k210_18 rfl
        replace H := f_gr H k210_19 (ci := 12) (f := 41) (x := 331) (by decide +kernel) (by decide) (hr 314 41 331 rfl)
        replace H := f_iload_n H k210_22 rfl
        replace H := f_aload_n H k210_23 rfl
        replace H := f_gr H k210_24 (ci := 12) (f := 41) (x := 331) (by decide +kernel) (by decide) (hr 314 41 331 rfl)
        replace H := f_iload_n H k210_27 rfl
        replace H := f_sipush H k210_28 (v := 208) (by decide)
        replace H := f_iadd H k210_31
        have Hob := f_iald H k210_32 (c := 8320) (by decide)
        clear H
        obtain ⟨hb32, H⟩ := Hob
        have Hob := f_iast H k210_33 (c := 8320) (by decide)
        clear H
        obtain ⟨hb33, H⟩ := Hob
        replace H := f_iinc H k210_34 rfl (l2 := [(1, .int (nI k + 1)), (0, .ref 314)]) rfl
        replace H := f_goto H k210_37 (t := 11) (by decide)
        rw [show (208 : Int32) = nI 208 from rfl, r_ad, nI_clamp (by omega), nI_clamp (by omega), nI_s, e3 (k + 208) (by omega)] at H
        refine ih (k + 1) (mI m2 331 k _) (by omega) h40 hr e0 (fun a i q => by rw [mI_ne (by omega)]; exact e2 a i q) (fun i q => by rw [mI_ne (by omega)]; exact e3 i (by omega)) (fun i hi => ?_) H
        by_cases c : i = k
        · subst c
          rw [mI_at]
        · rw [mI_ne (by omega)]; exact e4 i (by omega)
  replace H := f_aload_n H k210_0 rfl
  replace H := f_gi H k210_1 (ci := 12) (f := 42) (by decide +kernel) (by decide)
  replace H := f_bipush H k210_4 (v := 40) (by decide)
  rw [hh, show (40 : Int32) = nI 40 from rfl] at H
  have Hbr := f_icmp_ne H k210_6 (t := 50) (by decide)
  clear H
  rcases Hbr with ⟨c, H⟩ | ⟨c, H⟩
  · have h40 : h < 40 := by
      have : h ≠ 40 := fun q => c (by rw [q])
      omega
    replace H := f_iconst H k210_50 (v := 0) (by decide)
    replace H := f_istore_n H k210_51 (l2 := [(1, .int 0), (0, .ref 314)]) rfl
    refine cp n 0 h m m (Nat.zero_le _) h40 hr rfl hh (fun _ _ _ => rfl) (fun _ _ => rfl) (fun j hj => absurd hj (Nat.not_lt_zero _)) (fun m' q0 q1 q2 q3 q4 => ?_) H
    exact ⟨q0, q2, by rw [q1, show min (h + 1) 40 = h + 1 by omega], fun _ => ⟨fun i hi => q3 i (by omega), q4⟩, fun z => absurd z (by omega)⟩
  · rw [nI_inj (by omega) (by omega)] at c
    replace H := f_iconst H k210_9 (v := 0) (by decide)
    replace H := f_istore_n H k210_10 (l2 := [(1, .int 0), (0, .ref 314)]) rfl
    exact sh n 0 m (Nat.zero_le _) c hr rfl (fun _ _ _ => rfl) (fun _ _ => rfl) (fun i hi => absurd hi (Nat.not_lt_zero _)) H
