/-! L2: the copies of remember and undo: code, loops -/
theorem ly314 : lay 314 = (3, 12, kNf 12) := by decide +kernel
theorem ly326 : lay 326 = (0, 0, 208) := by decide +kernel
theorem ly331 : lay 331 = (0, 0, 8320) := by decide +kernel
theorem kc210_0 : lkc 0 (kcode 210) = some (.aload_n 0) := by decide +kernel
theorem kc210_1 : lkc 1 (kcode 210) = some (.getfield 292) := by decide +kernel
theorem kf210_292 : kFd (kcl 210) 292 = some (12, 42) := by decide +kernel
theorem kc210_4 : lkc 4 (kcode 210) = some (.bipush 40) := by decide +kernel
theorem kc210_6 : lkc 6 (kcode 210) = some (.if_icmp .ne 44) := by decide +kernel
theorem kc210_9 : lkc 9 (kcode 210) = some (.iconst 0) := by decide +kernel
theorem kc210_10 : lkc 10 (kcode 210) = some (.istore_n 1) := by decide +kernel
theorem kc210_11 : lkc 11 (kcode 210) = some (.iload_n 1) := by decide +kernel
theorem kc210_12 : lkc 12 (kcode 210) = some (.sipush 8112) := by decide +kernel
theorem kc210_15 : lkc 15 (kcode 210) = some (.if_icmp .ge 25) := by decide +kernel
theorem kc210_18 : lkc 18 (kcode 210) = some (.aload_n 0) := by decide +kernel
theorem kc210_19 : lkc 19 (kcode 210) = some (.getfield 81) := by decide +kernel
theorem kf210_81 : kFd (kcl 210) 81 = some (12, 41) := by decide +kernel
theorem kc210_22 : lkc 22 (kcode 210) = some (.iload_n 1) := by decide +kernel
theorem kc210_23 : lkc 23 (kcode 210) = some (.aload_n 0) := by decide +kernel
theorem kc210_24 : lkc 24 (kcode 210) = some (.getfield 81) := by decide +kernel
theorem kc210_27 : lkc 27 (kcode 210) = some (.iload_n 1) := by decide +kernel
theorem kc210_28 : lkc 28 (kcode 210) = some (.sipush 208) := by decide +kernel
theorem kc210_31 : lkc 31 (kcode 210) = some (.iadd) := by decide +kernel
theorem kc210_32 : lkc 32 (kcode 210) = some (.iaload) := by decide +kernel
theorem kc210_33 : lkc 33 (kcode 210) = some (.iastore) := by decide +kernel
theorem kc210_34 : lkc 34 (kcode 210) = some (.iinc 1 1) := by decide +kernel
theorem kc210_37 : lkc 37 (kcode 210) = some (.goto (-26)) := by decide +kernel
theorem kc210_40 : lkc 40 (kcode 210) = some (.aload_n 0) := by decide +kernel
theorem kc210_41 : lkc 41 (kcode 210) = some (.dup) := by decide +kernel
theorem kc210_42 : lkc 42 (kcode 210) = some (.getfield 292) := by decide +kernel
theorem kc210_45 : lkc 45 (kcode 210) = some (.iconst 1) := by decide +kernel
theorem kc210_46 : lkc 46 (kcode 210) = some (.isub) := by decide +kernel
theorem kc210_47 : lkc 47 (kcode 210) = some (.putfield 292) := by decide +kernel
theorem kc210_50 : lkc 50 (kcode 210) = some (.iconst 0) := by decide +kernel
theorem kc210_51 : lkc 51 (kcode 210) = some (.istore_n 1) := by decide +kernel
theorem kc210_52 : lkc 52 (kcode 210) = some (.iload_n 1) := by decide +kernel
theorem kc210_53 : lkc 53 (kcode 210) = some (.sipush 208) := by decide +kernel
theorem kc210_56 : lkc 56 (kcode 210) = some (.if_icmp .ge 30) := by decide +kernel
theorem kc210_59 : lkc 59 (kcode 210) = some (.aload_n 0) := by decide +kernel
theorem kc210_60 : lkc 60 (kcode 210) = some (.getfield 81) := by decide +kernel
theorem kc210_63 : lkc 63 (kcode 210) = some (.sipush 208) := by decide +kernel
theorem kc210_66 : lkc 66 (kcode 210) = some (.aload_n 0) := by decide +kernel
theorem kc210_67 : lkc 67 (kcode 210) = some (.getfield 292) := by decide +kernel
theorem kc210_70 : lkc 70 (kcode 210) = some (.imul) := by decide +kernel
theorem kc210_71 : lkc 71 (kcode 210) = some (.iload_n 1) := by decide +kernel
theorem kc210_72 : lkc 72 (kcode 210) = some (.iadd) := by decide +kernel
theorem kc210_73 : lkc 73 (kcode 210) = some (.aload_n 0) := by decide +kernel
theorem kc210_74 : lkc 74 (kcode 210) = some (.getfield 58) := by decide +kernel
theorem kf210_58 : kFd (kcl 210) 58 = some (12, 32) := by decide +kernel
theorem kc210_77 : lkc 77 (kcode 210) = some (.iload_n 1) := by decide +kernel
theorem kc210_78 : lkc 78 (kcode 210) = some (.iaload) := by decide +kernel
theorem kc210_79 : lkc 79 (kcode 210) = some (.iastore) := by decide +kernel
theorem kc210_80 : lkc 80 (kcode 210) = some (.iinc 1 1) := by decide +kernel
theorem kc210_83 : lkc 83 (kcode 210) = some (.goto (-31)) := by decide +kernel
theorem kc210_86 : lkc 86 (kcode 210) = some (.aload_n 0) := by decide +kernel
theorem kc210_87 : lkc 87 (kcode 210) = some (.dup) := by decide +kernel
theorem kc210_88 : lkc 88 (kcode 210) = some (.getfield 292) := by decide +kernel
theorem kc210_91 : lkc 91 (kcode 210) = some (.iconst 1) := by decide +kernel
theorem kc210_92 : lkc 92 (kcode 210) = some (.iadd) := by decide +kernel
theorem kc210_93 : lkc 93 (kcode 210) = some (.putfield 292) := by decide +kernel
theorem kc210_96 : lkc 96 (kcode 210) = some (.return_) := by decide +kernel
theorem kc220_0 : lkc 0 (kcode 220) = some (.aload_n 0) := by decide +kernel
theorem kc220_1 : lkc 1 (kcode 220) = some (.iconst 0) := by decide +kernel
theorem kc220_2 : lkc 2 (kcode 220) = some (.putfield 90) := by decide +kernel
theorem kf220_90 : kFd (kcl 220) 90 = some (12, 0) := by decide +kernel
theorem kc220_5 : lkc 5 (kcode 220) = some (.aload_n 0) := by decide +kernel
theorem kc220_6 : lkc 6 (kcode 220) = some (.getfield 292) := by decide +kernel
theorem kf220_292 : kFd (kcl 220) 292 = some (12, 42) := by decide +kernel
theorem kc220_9 : lkc 9 (kcode 220) = some (.ifCond .ne 5) := by decide +kernel
theorem kc220_12 : lkc 12 (kcode 220) = some (.iconst (-1)) := by decide +kernel
theorem kc220_13 : lkc 13 (kcode 220) = some (.ireturn) := by decide +kernel
theorem kc220_14 : lkc 14 (kcode 220) = some (.aload_n 0) := by decide +kernel
theorem kc220_15 : lkc 15 (kcode 220) = some (.dup) := by decide +kernel
theorem kc220_16 : lkc 16 (kcode 220) = some (.getfield 292) := by decide +kernel
theorem kc220_19 : lkc 19 (kcode 220) = some (.iconst 1) := by decide +kernel
theorem kc220_20 : lkc 20 (kcode 220) = some (.isub) := by decide +kernel
theorem kc220_21 : lkc 21 (kcode 220) = some (.putfield 292) := by decide +kernel
theorem kc220_24 : lkc 24 (kcode 220) = some (.iconst 0) := by decide +kernel
theorem kc220_25 : lkc 25 (kcode 220) = some (.istore_n 1) := by decide +kernel
theorem kc220_26 : lkc 26 (kcode 220) = some (.iload_n 1) := by decide +kernel
theorem kc220_27 : lkc 27 (kcode 220) = some (.sipush 208) := by decide +kernel
theorem kc220_30 : lkc 30 (kcode 220) = some (.if_icmp .ge 30) := by decide +kernel
theorem kc220_33 : lkc 33 (kcode 220) = some (.aload_n 0) := by decide +kernel
theorem kc220_34 : lkc 34 (kcode 220) = some (.getfield 58) := by decide +kernel
theorem kf220_58 : kFd (kcl 220) 58 = some (12, 32) := by decide +kernel
theorem kc220_37 : lkc 37 (kcode 220) = some (.iload_n 1) := by decide +kernel
theorem kc220_38 : lkc 38 (kcode 220) = some (.aload_n 0) := by decide +kernel
theorem kc220_39 : lkc 39 (kcode 220) = some (.getfield 81) := by decide +kernel
theorem kf220_81 : kFd (kcl 220) 81 = some (12, 41) := by decide +kernel
theorem kc220_42 : lkc 42 (kcode 220) = some (.sipush 208) := by decide +kernel
theorem kc220_45 : lkc 45 (kcode 220) = some (.aload_n 0) := by decide +kernel
theorem kc220_46 : lkc 46 (kcode 220) = some (.getfield 292) := by decide +kernel
theorem kc220_49 : lkc 49 (kcode 220) = some (.imul) := by decide +kernel
theorem kc220_50 : lkc 50 (kcode 220) = some (.iload_n 1) := by decide +kernel
theorem kc220_51 : lkc 51 (kcode 220) = some (.iadd) := by decide +kernel
theorem kc220_52 : lkc 52 (kcode 220) = some (.iaload) := by decide +kernel
theorem kc220_53 : lkc 53 (kcode 220) = some (.iastore) := by decide +kernel
theorem kc220_54 : lkc 54 (kcode 220) = some (.iinc 1 1) := by decide +kernel
theorem kc220_57 : lkc 57 (kcode 220) = some (.goto (-31)) := by decide +kernel
theorem kc220_60 : lkc 60 (kcode 220) = some (.aload_n 0) := by decide +kernel
theorem kc220_61 : lkc 61 (kcode 220) = some (.getfield 292) := by decide +kernel
theorem kc220_64 : lkc 64 (kcode 220) = some (.ireturn) := by decide +kernel
theorem ni_of {x : Int32} {A : Nat} (h : x.toInt = A) (hA : A < 2 ^ 31) : x = nI A := Int32.toInt_inj.mp (by rw [h, nI_toInt hA])
theorem ni_mu (a b : Nat) : nI a * nI b = nI (a * b) := (Int32.ofNat_mul a b).symm
theorem ni_ad (a b : Nat) : nI a + nI b = nI (a + b) := (Int32.ofNat_add a b).symm
theorem vp_nI {k n : Nat} (h : k < n) (hn : n < 2 ^ 31) : vp_in (nI k) n := by
  unfold vp_in
  rw [nI_clamp (by omega)]
  rintro (h1 | h1)
  · exact nI_pos (by omega) h1
  · omega
theorem u_seg {A k : Nat} (hA : A < 40) (hk : k < 208) : gseg (208 * A + k) (tS 331) = gseg k (tS 326) := by
  have h := gseg_u hk (n := 40) (a := A) (b := 0) hA
  rw [Nat.zero_add] at h
  exact h
theorem mI_on {m : xM} {a i : Nat} {v : Int32} : (mI m a i v).1 a i = v := u2_on
theorem mI_off {m : xM} {a i b j : Nat} {v : Int32} (h : ¬ (b = a ∧ j = i)) : (mI m a i v).1 b j = m.1 b j := u2_off h
theorem gI_mI {m : xM} {a i : Nat} {v : Int32} (hI : gI tS tR m) (hv : (gseg i (tS a)).1 ≤ v.toInt ∧ v.toInt ≤ (gseg i (tS a)).2) : gI tS tR (mI m a i v) := gI_w (a := a) (i := i) hI rfl (fun b j h => mI_off h) (by rw [mI_on]; exact hv)
theorem lk1_i {k : Nat} {l : List (Nat × Value)} : lkl 1 (sv1 1 (.int (nI k + Int32.ofInt 1)) l) = some (.int (nI (k + 1))) := by
  rw [nI_succ]
  exact lkl_h
theorem lk0_s {b : Nat} {v : Value} {l : List (Nat × Value)} (h : lkl 0 l = some (.ref b)) : lkl 0 (sv1 1 v l) = some (.ref b) := sv1_ne h (by decide) (fun z => by cases z.2)
theorem u_per {k : Nat} (hk : k < 8112) : gseg k (tS 331) = gseg (k + 208) (tS 331) := by
  have h1 := u_seg (A := k / 208) (k := k % 208) (by omega) (by omega)
  have h2 := u_seg (A := k / 208 + 1) (k := k % 208) (by omega) (by omega)
  rw [show 208 * (k / 208) + k % 208 = k by omega] at h1
  rw [show 208 * (k / 208 + 1) + k % 208 = k + 208 by omega] at h2
  rw [h1, h2]
set_option maxHeartbeats 4000000 in
theorem rem_b {ca : Nat → List Value → xM → (Option Value → xM → Prop) → Prop} {P : Option Value → xM → Prop} {A C : Nat} (hA : A < 40) : ∀ j k : Nat, k + j = 208 → ∀ (l : List (Nat × Value)) (m : xM) (f : Nat), lkl 0 l = some (.ref 314) → lkl 1 l = some (.int (nI k)) → gI tS tR m → (m.1 314 42).toInt = A → (∀ (l' : List (Nat × Value)) (m' : xM) (f' : Nat), lkl 0 l' = some (.ref 314) → lkl 1 l' = some (.int (nI 208)) → gI tS tR m' → (∀ a i, ¬ (a = 331 ∧ i < 8320) → m'.1 a i = m.1 a i) → C ≤ f' → xe 210 ca P f' 86 l' [] m') → 18 * (j + 1) + C ≤ f → xe 210 ca P f 52 l [] m := by
  intro j
  induction j with
  | zero =>
    intro k hk l m f hl0 hl1 hI hm hP hf
    obtain rfl : k = 208 := by omega
    obtain ⟨n, rfl⟩ : ∃ n, f = n + 3 := ⟨f - 3, by omega⟩
    refine s_ild kc210_52 hl1 ?_
    refine s_sip kc210_53 ?_
    refine s_icm kc210_56 (fun c56 => ?_) (fun c56 => ?no56)
    case no56 => exact absurd (show cnB .ge (nI 208).toInt (Int16.ofInt 208).toInt32.toInt from (by decide : (Int16.ofInt 208).toInt32.toInt ≤ (nI 208).toInt)) c56
    exact hP l m n hl0 hl1 hI (fun a i _ => rfl) (by omega)
  | succ j ih =>
    intro k hk l m f hl0 hl1 hI hm hP hf
    obtain ⟨n, rfl⟩ : ∃ n, f = n + 18 := ⟨f - 18, by omega⟩
    have hR := hI.2
    refine s_ild kc210_52 hl1 ?_
    refine s_sip kc210_53 ?_
    refine s_icm kc210_56 (fun c56 => ?no56) (fun c56 => ?_)
    case no56 =>
      have h1 : (Int16.ofInt 208).toInt32.toInt ≤ (nI k).toInt := c56
      rw [nI_toInt (by omega), show (Int16.ofInt 208).toInt32.toInt = 208 by decide] at h1
      omega
    have em := ni_of hm (by omega)
    have e1 : (Int16.ofInt 208).toInt32 * m.1 314 42 + nI k = nI (208 * A + k) := by
      rw [em, show (Int16.ofInt 208).toInt32 = nI 208 by decide, ni_mu, ni_ad]
    refine s_ald kc210_59 hl0 ?_
    refine s_gfR (b := 331) kc210_60 kf210_81 rfl ly314 (hR 314 41 _ rfl) ?_
    refine s_sip kc210_63 ?_
    refine s_ald kc210_66 hl0 ?_
    refine s_gfI kc210_67 kf210_292 (Or.inl rfl) ly314 ?_
    refine s_mul kc210_70 ?_
    refine s_ild kc210_71 hl1 ?_
    refine s_add kc210_72 ?_
    refine s_ald kc210_73 hl0 ?_
    refine s_gfR (b := 326) kc210_74 kf210_58 rfl ly314 (hR 314 32 _ rfl) ?_
    refine s_ild kc210_77 hl1 ?_
    refine s_ial kc210_78 ly326 (vp_nI (by omega) (by decide)) ?_
    rw [e1]
    refine s_ias kc210_79 ly331 (vp_nI (by omega) (by decide)) ?_
    refine s_inc kc210_80 (by decide) hl1 ?_
    refine s_goto kc210_83 ?_
    rw [nI_clamp (by omega), nI_clamp (by omega)]
    have o1 : k + 1 + j = 208 := by omega
    have o2 : 18 * (j + 1) + C ≤ n := by omega
    have hv : (gseg (208 * A + k) (tS 331)).1 ≤ (m.1 326 k).toInt ∧ (m.1 326 k).toInt ≤ (gseg (208 * A + k) (tS 331)).2 := (by rw [u_seg hA (by omega)]; exact hI.1 326 k)
    have hI' := gI_mI hI hv
    refine ih (k + 1) o1 _ _ n (lk0_s hl0) (lk1_i) hI' (by rw [mI_off (fun z => absurd z.1 (by decide))]; exact hm) (fun l' m' f' g0 g1 h1 h2 h3 => hP l' m' f' g0 g1 h1 (fun a i ha => ?_) h3) o2
    rw [h2 a i ha, mI_off (fun z => ha ⟨z.1, by have := z.2; clear hv; omega⟩)]

set_option maxHeartbeats 4000000 in
theorem und_b {ca : Nat → List Value → xM → (Option Value → xM → Prop) → Prop} {P : Option Value → xM → Prop} {A C : Nat} (hA : A < 40) : ∀ j k : Nat, k + j = 208 → ∀ (l : List (Nat × Value)) (m : xM) (f : Nat), lkl 0 l = some (.ref 314) → lkl 1 l = some (.int (nI k)) → gI tS tR m → (m.1 314 42).toInt = A → (∀ (l' : List (Nat × Value)) (m' : xM) (f' : Nat), lkl 0 l' = some (.ref 314) → lkl 1 l' = some (.int (nI 208)) → gI tS tR m' → (∀ a i, ¬ (a = 326 ∧ i < 208) → m'.1 a i = m.1 a i) → C ≤ f' → xe 220 ca P f' 60 l' [] m') → 18 * (j + 1) + C ≤ f → xe 220 ca P f 26 l [] m := by
  intro j
  induction j with
  | zero =>
    intro k hk l m f hl0 hl1 hI hm hP hf
    obtain rfl : k = 208 := by omega
    obtain ⟨n, rfl⟩ : ∃ n, f = n + 3 := ⟨f - 3, by omega⟩
    refine s_ild kc220_26 hl1 ?_
    refine s_sip kc220_27 ?_
    refine s_icm kc220_30 (fun c30 => ?_) (fun c30 => ?no30)
    case no30 => exact absurd (show cnB .ge (nI 208).toInt (Int16.ofInt 208).toInt32.toInt from (by decide : (Int16.ofInt 208).toInt32.toInt ≤ (nI 208).toInt)) c30
    exact hP l m n hl0 hl1 hI (fun a i _ => rfl) (by omega)
  | succ j ih =>
    intro k hk l m f hl0 hl1 hI hm hP hf
    obtain ⟨n, rfl⟩ : ∃ n, f = n + 18 := ⟨f - 18, by omega⟩
    have hR := hI.2
    refine s_ild kc220_26 hl1 ?_
    refine s_sip kc220_27 ?_
    refine s_icm kc220_30 (fun c30 => ?no30) (fun c30 => ?_)
    case no30 =>
      have h1 : (Int16.ofInt 208).toInt32.toInt ≤ (nI k).toInt := c30
      rw [nI_toInt (by omega), show (Int16.ofInt 208).toInt32.toInt = 208 by decide] at h1
      omega
    have em := ni_of hm (by omega)
    have e1 : (Int16.ofInt 208).toInt32 * m.1 314 42 + nI k = nI (208 * A + k) := by
      rw [em, show (Int16.ofInt 208).toInt32 = nI 208 by decide, ni_mu, ni_ad]
    refine s_ald kc220_33 hl0 ?_
    refine s_gfR (b := 326) kc220_34 kf220_58 rfl ly314 (hR 314 32 _ rfl) ?_
    refine s_ild kc220_37 hl1 ?_
    refine s_ald kc220_38 hl0 ?_
    refine s_gfR (b := 331) kc220_39 kf220_81 rfl ly314 (hR 314 41 _ rfl) ?_
    refine s_sip kc220_42 ?_
    refine s_ald kc220_45 hl0 ?_
    refine s_gfI kc220_46 kf220_292 (Or.inl rfl) ly314 ?_
    refine s_mul kc220_49 ?_
    refine s_ild kc220_50 hl1 ?_
    refine s_add kc220_51 ?_
    rw [e1]
    refine s_ial kc220_52 ly331 (vp_nI (by omega) (by decide)) ?_
    refine s_ias kc220_53 ly326 (vp_nI (by omega) (by decide)) ?_
    refine s_inc kc220_54 (by decide) hl1 ?_
    refine s_goto kc220_57 ?_
    rw [nI_clamp (by omega), nI_clamp (by omega)]
    have o1 : k + 1 + j = 208 := by omega
    have o2 : 18 * (j + 1) + C ≤ n := by omega
    have hv : (gseg k (tS 326)).1 ≤ (m.1 331 (208 * A + k)).toInt ∧ (m.1 331 (208 * A + k)).toInt ≤ (gseg k (tS 326)).2 := (by rw [← u_seg hA (by omega)]; exact hI.1 331 _)
    have hI' := gI_mI hI hv
    refine ih (k + 1) o1 _ _ n (lk0_s hl0) (lk1_i) hI' (by rw [mI_off (fun z => absurd z.1 (by decide))]; exact hm) (fun l' m' f' g0 g1 h1 h2 h3 => hP l' m' f' g0 g1 h1 (fun a i ha => ?_) h3) o2
    rw [h2 a i ha, mI_off (fun z => ha ⟨z.1, by have := z.2; clear hv; omega⟩)]

set_option maxHeartbeats 4000000 in
theorem rem_a {ca : Nat → List Value → xM → (Option Value → xM → Prop) → Prop} {P : Option Value → xM → Prop} {C : Nat} : ∀ j k : Nat, k + j = 8112 → ∀ (l : List (Nat × Value)) (m : xM) (f : Nat), lkl 0 l = some (.ref 314) → lkl 1 l = some (.int (nI k)) → gI tS tR m → (∀ (l' : List (Nat × Value)) (m' : xM) (f' : Nat), lkl 0 l' = some (.ref 314) → lkl 1 l' = some (.int (nI 8112)) → gI tS tR m' → (∀ a i, ¬ (a = 331 ∧ i < 8320) → m'.1 a i = m.1 a i) → C ≤ f' → xe 210 ca P f' 40 l' [] m') → 15 * (j + 1) + C ≤ f → xe 210 ca P f 11 l [] m := by
  intro j
  induction j with
  | zero =>
    intro k hk l m f hl0 hl1 hI hP hf
    obtain rfl : k = 8112 := by omega
    obtain ⟨n, rfl⟩ : ∃ n, f = n + 3 := ⟨f - 3, by omega⟩
    refine s_ild kc210_11 hl1 ?_
    refine s_sip kc210_12 ?_
    refine s_icm kc210_15 (fun c15 => ?_) (fun c15 => ?no15)
    case no15 => exact absurd (show cnB .ge (nI 8112).toInt (Int16.ofInt 8112).toInt32.toInt from (by decide : (Int16.ofInt 8112).toInt32.toInt ≤ (nI 8112).toInt)) c15
    exact hP l m n hl0 hl1 hI (fun a i _ => rfl) (by omega)
  | succ j ih =>
    intro k hk l m f hl0 hl1 hI hP hf
    obtain ⟨n, rfl⟩ : ∃ n, f = n + 15 := ⟨f - 15, by omega⟩
    have hR := hI.2
    refine s_ild kc210_11 hl1 ?_
    refine s_sip kc210_12 ?_
    refine s_icm kc210_15 (fun c15 => ?no15) (fun c15 => ?_)
    case no15 =>
      have h1 : (Int16.ofInt 8112).toInt32.toInt ≤ (nI k).toInt := c15
      rw [nI_toInt (by omega), show (Int16.ofInt 8112).toInt32.toInt = 8112 by decide] at h1
      omega
    have e1 : nI k + (Int16.ofInt 208).toInt32 = nI (k + 208) := by
      rw [show (Int16.ofInt 208).toInt32 = nI 208 by decide, ni_ad]
    refine s_ald kc210_18 hl0 ?_
    refine s_gfR (b := 331) kc210_19 kf210_81 rfl ly314 (hR 314 41 _ rfl) ?_
    refine s_ild kc210_22 hl1 ?_
    refine s_ald kc210_23 hl0 ?_
    refine s_gfR (b := 331) kc210_24 kf210_81 rfl ly314 (hR 314 41 _ rfl) ?_
    refine s_ild kc210_27 hl1 ?_
    refine s_sip kc210_28 ?_
    refine s_add kc210_31 ?_
    rw [e1]
    refine s_ial kc210_32 ly331 (vp_nI (by omega) (by decide)) ?_
    refine s_ias kc210_33 ly331 (vp_nI (by omega) (by decide)) ?_
    refine s_inc kc210_34 (by decide) hl1 ?_
    refine s_goto kc210_37 ?_
    rw [nI_clamp (by omega), nI_clamp (by omega)]
    have o1 : k + 1 + j = 8112 := by omega
    have o2 : 15 * (j + 1) + C ≤ n := by omega
    have hv : (gseg k (tS 331)).1 ≤ (m.1 331 (k + 208)).toInt ∧ (m.1 331 (k + 208)).toInt ≤ (gseg k (tS 331)).2 := (by rw [u_per (by omega)]; exact hI.1 331 _)
    have hI' := gI_mI hI hv
    refine ih (k + 1) o1 _ _ n (lk0_s hl0) (lk1_i) hI' (fun l' m' f' g0 g1 h1 h2 h3 => hP l' m' f' g0 g1 h1 (fun a i ha => ?_) h3) o2
    rw [h2 a i ha, mI_off (fun z => ha ⟨z.1, by have := z.2; clear hv; omega⟩)]

