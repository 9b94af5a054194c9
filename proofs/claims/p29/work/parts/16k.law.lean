theorem k24_0 : lkc 0 (kcode 24) = some (.aload_n 0) := by decide +kernel
theorem k24_1 : lkc 1 (kcode 24) = some (.getfield 19) := by decide +kernel
theorem k24_4 : lkc 4 (kcode 24) = some (.sipush 240) := by decide +kernel
theorem k24_7 : lkc 7 (kcode 24) = some (.if_icmp .ge 23) := by decide +kernel
theorem k24_10 : lkc 10 (kcode 24) = some (.aload_n 0) := by decide +kernel
theorem k24_11 : lkc 11 (kcode 24) = some (.getfield 9) := by decide +kernel
theorem k24_14 : lkc 14 (kcode 24) = some (.aload_n 0) := by decide +kernel
theorem k24_15 : lkc 15 (kcode 24) = some (.getfield 19) := by decide +kernel
theorem k24_18 : lkc 18 (kcode 24) = some (.iload_n 1) := by decide +kernel
theorem k24_19 : lkc 19 (kcode 24) = some (.iastore) := by decide +kernel
theorem k24_20 : lkc 20 (kcode 24) = some (.aload_n 0) := by decide +kernel
theorem k24_21 : lkc 21 (kcode 24) = some (.dup) := by decide +kernel
theorem k24_22 : lkc 22 (kcode 24) = some (.getfield 19) := by decide +kernel
theorem k24_25 : lkc 25 (kcode 24) = some (.iconst 1) := by decide +kernel
theorem k24_26 : lkc 26 (kcode 24) = some (.iadd) := by decide +kernel
theorem k24_27 : lkc 27 (kcode 24) = some (.putfield 19) := by decide +kernel
theorem k24_30 : lkc 30 (kcode 24) = some (.return_) := by decide +kernel
theorem k22_0 : lkc 0 (kcode 22) = some (.iload_n 0) := by decide +kernel
theorem k22_1 : lkc 1 (kcode 22) = some (.bipush 121) := by decide +kernel
theorem k22_3 : lkc 3 (kcode 22) = some (.if_icmp .eq 33) := by decide +kernel
theorem k22_6 : lkc 6 (kcode 22) = some (.iload_n 0) := by decide +kernel
theorem k22_7 : lkc 7 (kcode 22) = some (.bipush 119) := by decide +kernel
theorem k22_9 : lkc 9 (kcode 22) = some (.if_icmp .eq 27) := by decide +kernel
theorem k22_12 : lkc 12 (kcode 22) = some (.iload_n 0) := by decide +kernel
theorem k22_13 : lkc 13 (kcode 22) = some (.bipush 102) := by decide +kernel
theorem k22_15 : lkc 15 (kcode 22) = some (.if_icmp .eq 21) := by decide +kernel
theorem k22_18 : lkc 18 (kcode 22) = some (.iload_n 0) := by decide +kernel
theorem k22_19 : lkc 19 (kcode 22) = some (.bipush 108) := by decide +kernel
theorem k22_21 : lkc 21 (kcode 22) = some (.if_icmp .eq 15) := by decide +kernel
theorem k22_24 : lkc 24 (kcode 22) = some (.iload_n 0) := by decide +kernel
theorem k22_25 : lkc 25 (kcode 22) = some (.bipush 99) := by decide +kernel
theorem k22_27 : lkc 27 (kcode 22) = some (.if_icmp .eq 9) := by decide +kernel
theorem k22_30 : lkc 30 (kcode 22) = some (.iload_n 0) := by decide +kernel
theorem k22_31 : lkc 31 (kcode 22) = some (.bipush 100) := by decide +kernel
theorem k22_33 : lkc 33 (kcode 22) = some (.if_icmp .ne 7) := by decide +kernel
theorem k22_36 : lkc 36 (kcode 22) = some (.iconst 1) := by decide +kernel
theorem k22_37 : lkc 37 (kcode 22) = some (.goto 4) := by decide +kernel
theorem k22_40 : lkc 40 (kcode 22) = some (.iconst 0) := by decide +kernel
theorem k22_41 : lkc 41 (kcode 22) = some (.ireturn) := by decide +kernel
theorem k21_0 : lkc 0 (kcode 21) = some (.aload_n 0) := by decide +kernel
theorem k21_1 : lkc 1 (kcode 21) = some (.getfield 15) := by decide +kernel
theorem k21_4 : lkc 4 (kcode 21) = some (.invokevirtual 35) := by decide +kernel
theorem k21_7 : lkc 7 (kcode 21) = some (.istore_n 2) := by decide +kernel
theorem k21_8 : lkc 8 (kcode 21) = some (.iload_n 2) := by decide +kernel
theorem k21_9 : lkc 9 (kcode 21) = some (.invokestatic 82) := by decide +kernel
theorem k21_12 : lkc 12 (kcode 21) = some (.ifCond .eq 30) := by decide +kernel
theorem k21_15 : lkc 15 (kcode 21) = some (.aload_n 0) := by decide +kernel
theorem k21_16 : lkc 16 (kcode 21) = some (.getfield 15) := by decide +kernel
theorem k21_19 : lkc 19 (kcode 21) = some (.iconst 4) := by decide +kernel
theorem k21_20 : lkc 20 (kcode 21) = some (.iconst 0) := by decide +kernel
theorem k21_21 : lkc 21 (kcode 21) = some (.sipush 9999) := by decide +kernel
theorem k21_24 : lkc 24 (kcode 21) = some (.invokevirtual 85) := by decide +kernel
theorem k21_27 : lkc 27 (kcode 21) = some (.istore_n 3) := by decide +kernel
theorem k21_28 : lkc 28 (kcode 21) = some (.iload_n 3) := by decide +kernel
theorem k21_29 : lkc 29 (kcode 21) = some (.iconst (-1)) := by decide +kernel
theorem k21_30 : lkc 30 (kcode 21) = some (.if_icmp .ne 5) := by decide +kernel
theorem k21_33 : lkc 33 (kcode 21) = some (.iconst 0) := by decide +kernel
theorem k21_34 : lkc 34 (kcode 21) = some (.ireturn) := by decide +kernel
theorem k21_35 : lkc 35 (kcode 21) = some (.aload_n 0) := by decide +kernel
theorem k21_36 : lkc 36 (kcode 21) = some (.iload_n 3) := by decide +kernel
theorem k21_37 : lkc 37 (kcode 21) = some (.invokevirtual 56) := by decide +kernel
theorem k21_40 : lkc 40 (kcode 21) = some (.iconst 1) := by decide +kernel
theorem k21_41 : lkc 41 (kcode 21) = some (.ireturn) := by decide +kernel
theorem k21_42 : lkc 42 (kcode 21) = some (.iload_n 2) := by decide +kernel
theorem k21_43 : lkc 43 (kcode 21) = some (.invokestatic 89) := by decide +kernel
theorem k21_46 : lkc 46 (kcode 21) = some (.ifCond .eq 18) := by decide +kernel
theorem k21_49 : lkc 49 (kcode 21) = some (.aload_n 0) := by decide +kernel
theorem k21_50 : lkc 50 (kcode 21) = some (.getfield 15) := by decide +kernel
theorem k21_53 : lkc 53 (kcode 21) = some (.invokevirtual 63) := by decide +kernel
theorem k21_56 : lkc 56 (kcode 21) = some (.aload_n 0) := by decide +kernel
theorem k21_57 : lkc 57 (kcode 21) = some (.iload_n 2) := by decide +kernel
theorem k21_58 : lkc 58 (kcode 21) = some (.ineg) := by decide +kernel
theorem k21_59 : lkc 59 (kcode 21) = some (.invokevirtual 56) := by decide +kernel
theorem k21_62 : lkc 62 (kcode 21) = some (.iconst 1) := by decide +kernel
theorem k21_63 : lkc 63 (kcode 21) = some (.ireturn) := by decide +kernel
theorem k21_64 : lkc 64 (kcode 21) = some (.iload_n 2) := by decide +kernel
theorem k21_65 : lkc 65 (kcode 21) = some (.bipush 91) := by decide +kernel
theorem k21_67 : lkc 67 (kcode 21) = some (.if_icmp .ne 9) := by decide +kernel
theorem k21_70 : lkc 70 (kcode 21) = some (.iload_n 1) := by decide +kernel
theorem k21_71 : lkc 71 (kcode 21) = some (.bipush 6) := by decide +kernel
theorem k21_73 : lkc 73 (kcode 21) = some (.if_icmp .lt 11) := by decide +kernel
theorem k21_76 : lkc 76 (kcode 21) = some (.aload_n 0) := by decide +kernel
theorem k21_77 : lkc 77 (kcode 21) = some (.getfield 15) := by decide +kernel
theorem k21_80 : lkc 80 (kcode 21) = some (.invokevirtual 73) := by decide +kernel
theorem k21_83 : lkc 83 (kcode 21) = some (.ireturn) := by decide +kernel
theorem k21_84 : lkc 84 (kcode 21) = some (.aload_n 0) := by decide +kernel
theorem k21_85 : lkc 85 (kcode 21) = some (.getfield 15) := by decide +kernel
theorem k21_88 : lkc 88 (kcode 21) = some (.invokevirtual 63) := by decide +kernel
theorem k21_91 : lkc 91 (kcode 21) = some (.aload_n 0) := by decide +kernel
theorem k21_92 : lkc 92 (kcode 21) = some (.iload_n 1) := by decide +kernel
theorem k21_93 : lkc 93 (kcode 21) = some (.iconst 1) := by decide +kernel
theorem k21_94 : lkc 94 (kcode 21) = some (.iadd) := by decide +kernel
theorem k21_95 : lkc 95 (kcode 21) = some (.invokevirtual 46) := by decide +kernel
theorem k21_98 : lkc 98 (kcode 21) = some (.ifCond .eq 19) := by decide +kernel
theorem k21_101 : lkc 101 (kcode 21) = some (.aload_n 0) := by decide +kernel
theorem k21_102 : lkc 102 (kcode 21) = some (.getfield 15) := by decide +kernel
theorem k21_105 : lkc 105 (kcode 21) = some (.bipush 93) := by decide +kernel
theorem k21_107 : lkc 107 (kcode 21) = some (.invokevirtual 39) := by decide +kernel
theorem k21_110 : lkc 110 (kcode 21) = some (.ifCond .eq 7) := by decide +kernel
theorem k21_113 : lkc 113 (kcode 21) = some (.iconst 1) := by decide +kernel
theorem k21_114 : lkc 114 (kcode 21) = some (.goto 4) := by decide +kernel
theorem k21_117 : lkc 117 (kcode 21) = some (.iconst 0) := by decide +kernel
theorem k21_118 : lkc 118 (kcode 21) = some (.ireturn) := by decide +kernel
theorem rdg_rng {N : Nat} {t : Nat → Int32} : ∀ D k h v, k + D ≤ 4 → 0 ≤ v.toInt → v.toInt < 10 ^ k → 0 ≤ (rdg N t D h v).2.toInt ∧ (rdg N t D h v).2.toInt < 10 ^ (k + D) := by
  intro D
  induction D with
  | zero => exact fun k h v _ h1 h2 => ⟨h1, h2⟩
  | succ D ih =>
    intro k h v hk h1 h2
    unfold rdg
    split
    · rename_i hd
      have e : (v * 10 + atv N t h - 48).toInt = v.toInt * 10 + (atv N t h).toInt - 48 := by
        have hk4 : (10 : Int) ^ k ≤ 10 ^ 4 := by
          have : k = 0 ∨ k = 1 ∨ k = 2 ∨ k = 3 := by omega
          rcases this with rfl | rfl | rfl | rfl <;> decide
        obtain ⟨d1, d2⟩ := hd
        rw [Int32.toInt_sub, Int32.toInt_add, Int32.toInt_mul, show (10 : Int32).toInt = 10 by decide, show (48 : Int32).toInt = 48 by decide]
        rw [Int.bmod_eq_of_le (n := v.toInt * 10) (by omega) (by omega), Int.bmod_eq_of_le (n := v.toInt * 10 + (atv N t h).toInt) (by omega) (by omega), Int.bmod_eq_of_le (by omega) (by omega)]
      obtain ⟨d1, d2⟩ := hd
      have h3 := ih (k + 1) (h + 1) (v * 10 + atv N t h - 48) (by omega) (by rw [e]; omega) (by rw [e, Int.pow_succ]; omega)
      rw [show k + 1 + D = k + (D + 1) by omega] at h3
      exact h3
    · refine ⟨h1, Int.lt_of_lt_of_le h2 ?_⟩
      have hk3 : k = 0 ∨ k = 1 ∨ k = 2 ∨ k = 3 := by omega
      have hD3 : D = 0 ∨ D = 1 ∨ D = 2 ∨ D = 3 := by omega
      rcases hk3 with rfl | rfl | rfl | rfl <;> rcases hD3 with rfl | rfl | rfl | rfl <;> first | decide | omega
/-- the law's reader over the tape's bytes t, its head at h -/
def rdS (m : xM) (N h : Nat) (t : Nat → Int32) : Prop := tpS m N h ∧ m.1 2 = t ∧ m.2.2 45 0 = some 1 ∧ m.2.2 45 1 = some 46
theorem rdS_h {m : xM} {N h h2 : Nat} {t : Nat → Int32} (hm : rdS m N h t) (hh : h2 ≤ N) : rdS (mI m 1 2 (nI h2)) N h2 t := ⟨tpS_h hm.1 hh, by rw [mI_row]; exact hm.2.1, hm.2.2⟩
theorem rdS_w {m : xM} {N h : Nat} {t : Nat → Int32} {v : Int32} (hm : rdS m N h t) : rdS (mI m 1 3 v) N h t := ⟨tpS_w hm.1, by rw [mI_row]; exact hm.2.1, hm.2.2⟩
/-- what a reading of the items is from h says -/
def rdO (N : Nat) (t : Nat → Int32) (h : Nat) (is : List It) (m : xM) (rv : Option Value) (m' : xM) : Prop := (∃ h2, rv = some (.int 1) ∧ rdS m' N h2 t ∧ h ≤ h2 ∧ Rok N t is h h2) ∨ (∃ w h2, rv = some (.int 0) ∧ rdS m' N h2 t ∧ m'.1 1 3 = nI w ∧ Rno N t is h w)
theorem c_emit {m : xM} {N h : Nat} {t : Nat → Int32} {v : Int32} (hm : rdS m N h t) : fC 24 [.ref 45, .int v] m (fun rv m' => rv = none ∧ rdS m' N h t ∧ m'.1 1 = m.1 1) := by
  obtain ⟨⟨e1, e2, hN, hh, e3⟩, e4, e5, e6⟩ := id hm
  refine fC_of (by decide) (fun d n P H => ?_)
  have H := f_aload_n H k24_0 (x := 45) rfl
  have H := f_getfield H k24_1 (ci := 2) (f := 2) (v := .int (m.1 45 2)) (by decide +kernel) rfl
  have H := f_sipush H k24_4 (v := 240) (by decide)
  rcases f_icmp_ge H k24_7 (t := 30) (by decide) with ⟨c, H⟩ | ⟨c, H⟩
  · have H := f_ret H k24_30
    exact ⟨_, _, H, rfl, hm, rfl⟩
  · have H := f_aload_n H k24_10 (x := 45) rfl
    have H := f_getfield H k24_11 (ci := 2) (f := 1) (v := .ref 46) (by decide +kernel) (show rvl (m.2.2 45 1) = _ by rw [e6]; rfl)
    have H := f_aload_n H k24_14 (x := 45) rfl
    have H := f_getfield H k24_15 (ci := 2) (f := 2) (v := .int (m.1 45 2)) (by decide +kernel) rfl
    have H := f_iload_n H k24_18 (x := v) rfl
    obtain ⟨-, H⟩ := f_iast H k24_19 (c := 240) (by decide)
    have H := f_aload_n H k24_20 (x := 45) rfl
    have H := f_dup H k24_21
    have H := f_getfield H k24_22 (ci := 2) (f := 2) (by decide +kernel) rfl
    have H := f_iconst H k24_25 (v := 1) (by decide)
    have H := f_iadd H k24_26
    have H := f_put_i H k24_27 (ci := 2) (f := 2) (by decide +kernel) (by decide)
    have H := f_ret H k24_30
    refine ⟨_, _, H, rfl, ⟨⟨?_, ?_, hN, hh, e3⟩, ?_, e5, e6⟩, ?_⟩
    · rw [mI_ne (by omega), mI_ne (by omega)]; exact e1
    · rw [mI_ne (by omega), mI_ne (by omega)]; exact e2
    · rw [← e4]; exact funext fun j => by rw [mI_ne (by omega), mI_ne (by omega)]
    · exact funext fun j => by rw [mI_ne (by omega), mI_ne (by omega)]
theorem c_isLetter {m : xM} {s : Int32} : fC 22 [.int s] m (fun rv m' => ((isLet s ∧ rv = some (.int 1)) ∨ (¬ isLet s ∧ rv = some (.int 0))) ∧ m' = m) := by
  refine fC_of (by decide) (fun d n P H => ?_)
  have yes : isLet s → xF 22 (xw d) P n 36 [(0, .int s)] [] m → ∃ rv m', P rv m' ∧ ((isLet s ∧ rv = some (.int 1)) ∨ (¬ isLet s ∧ rv = some (.int 0))) ∧ m' = m := by
    intro hl H
    have H := f_iconst H k22_36 (v := 1) (by decide)
    have H := f_goto H k22_37 (t := 41) (by decide)
    have H := f_iret H k22_41
    exact ⟨_, _, H, Or.inl ⟨hl, rfl⟩, rfl⟩
  have H := f_iload_n H k22_0 (x := s) rfl
  have H := f_bipush H k22_1 (v := 121) (by decide)
  rcases f_icmp_eq H k22_3 (t := 36) (by decide) with ⟨c, H⟩ | ⟨c1, H⟩
  · exact yes (Or.inl c) H
  have H := f_iload_n H k22_6 (x := s) rfl
  have H := f_bipush H k22_7 (v := 119) (by decide)
  rcases f_icmp_eq H k22_9 (t := 36) (by decide) with ⟨c, H⟩ | ⟨c2, H⟩
  · exact yes (Or.inr (Or.inl c)) H
  have H := f_iload_n H k22_12 (x := s) rfl
  have H := f_bipush H k22_13 (v := 102) (by decide)
  rcases f_icmp_eq H k22_15 (t := 36) (by decide) with ⟨c, H⟩ | ⟨c3, H⟩
  · exact yes (Or.inr (Or.inr (Or.inl c))) H
  have H := f_iload_n H k22_18 (x := s) rfl
  have H := f_bipush H k22_19 (v := 108) (by decide)
  rcases f_icmp_eq H k22_21 (t := 36) (by decide) with ⟨c, H⟩ | ⟨c4, H⟩
  · exact yes (Or.inr (Or.inr (Or.inr (Or.inl c)))) H
  have H := f_iload_n H k22_24 (x := s) rfl
  have H := f_bipush H k22_25 (v := 99) (by decide)
  rcases f_icmp_eq H k22_27 (t := 36) (by decide) with ⟨c, H⟩ | ⟨c5, H⟩
  · exact yes (Or.inr (Or.inr (Or.inr (Or.inr (Or.inl c))))) H
  have H := f_iload_n H k22_30 (x := s) rfl
  have H := f_bipush H k22_31 (v := 100) (by decide)
  rcases f_icmp_ne H k22_33 (t := 40) (by decide) with ⟨c6, H⟩ | ⟨c, H⟩
  · have H := f_iconst H k22_40 (v := 0) (by decide)
    have H := f_iret H k22_41
    exact ⟨_, _, H, Or.inr ⟨fun z => by rcases z with z | z | z | z | z | z <;> contradiction, rfl⟩, rfl⟩
  · exact yes (Or.inr (Or.inr (Or.inr (Or.inr (Or.inr c))))) H
set_option maxHeartbeats 4000000 in
theorem c_readAtom {m : xM} {N h dp : Nat} {t : Nat → Int32} (hm : rdS m N h t) (hdp : dp ≤ 6) (hs : dp < 6 → ∀ m h, rdS m N h t → fC 19 [.ref 45, .int (nI (dp + 1))] m (rdO N t h [.sum (dp + 1)] m)) : fC 21 [.ref 45, .int (nI dp)] m (rdO N t h [.atom dp] m) := by
  refine fC_of (by decide) (fun d n P H => ?_)
  have hN := hm.1.2.2.1
  have hh := hm.1.2.2.2.1
  have hp : sk N t h ≤ N := sk_le hh
  have hge : h ≤ sk N t h := sk_ge
  have hsk : sk N t (sk N t h) = sk N t h := sk_sk hh
  have e5 := hm.2.2.1
  have H := f_aload_n H k21_0 (x := 45) rfl
  have H := f_getfield H k21_1 (ci := 2) (f := 0) (v := .ref 1) (by decide +kernel) (show rvl (m.2.2 45 0) = _ by rw [e5]; rfl)
  obtain ⟨rv, m1, ⟨rfl, e9⟩, H⟩ := f_inv H k21_4 (by decide +kernel) (as := []) (b := 1) (r := []) (by rfl) (c_ahead hm.1)
  rw [hm.2.1] at H e9
  generalize hpe : sk N t h = p at *
  have hst : ∀ i, stP N t i h = stI N t h p (atv N t p) i := fun i => by unfold stP; rw [hpe]
  have hm1 : rdS m1 N p t := by rw [e9]; exact rdS_h hm hp
  have e51 := hm1.2.2.1
  clear e9
  generalize hse : atv N t p = s at *
  have H := f_istore_n H k21_7 (l2 := [(2, .int s), (0, .ref 45), (1, .int (nI dp))]) rfl
  have H := f_iload_n H k21_8 (x := s) rfl
  obtain ⟨rv, m', ⟨hz, rfl⟩, H⟩ := f_ins H k21_9 (by decide +kernel) (as := [.int s]) (r := []) (by rfl) c_isDigit
  rcases hz with ⟨hz, rfl⟩ | ⟨hz, rfl⟩
  · rcases f_if_eq H k21_12 (t := 42) (by decide) with ⟨c, H⟩ | ⟨-, H⟩
    · exact absurd c (by decide)
    have H := f_aload_n H k21_15 (x := 45) rfl
    have H := f_getfield H k21_16 (ci := 2) (f := 0) (v := .ref 1) (by decide +kernel) (show rvl (m'.2.2 45 0) = _ by rw [e51]; rfl)
    have H := f_iconst H k21_19 (v := nI 4) (by decide)
    have H := f_iconst H k21_20 (v := 0) (by decide)
    have H := f_sipush H k21_21 (v := 9999) (by decide)
    obtain ⟨rv, m2, hn, H⟩ := f_inv H k21_24 (by decide +kernel) (as := [.int (nI 4), .int 0, .int 9999]) (b := 1) (r := []) (by rfl) (c_takeNumber hm1.1 (Nat.le_refl 4))
    unfold nuF at hn
    rw [hm1.2.1, hsk] at hn
    have hstI : stP N t (.atom dp) h = if isDg (atv N t (rdg N t 4 p 0).1) then .inr (rdg N t 4 p 0).1 else .inl ([], (rdg N t 4 p 0).1) := by
      rw [hst, st_atom, if_pos hz]
    have hne : (rdg N t 4 p 0).1 ≠ p := by
      have e : rdg N t 4 p 0 = rdg N t 3 (p + 1) (0 * 10 + atv N t p - 48) := by
        rw [rdg, if_pos (by rw [hse]; exact hz)]
      have key : ∀ D h v, h ≤ (rdg N t D h v).1 := by
        intro D
        induction D with
        | zero => exact fun h v => Nat.le_refl h
        | succ D ih =>
          intro h v
          unfold rdg
          split
          · exact Nat.le_trans (Nat.le_succ h) (ih _ _)
          · exact Nat.le_refl h
      have := key 3 (p + 1) (0 * 10 + atv N t p - 48)
      rw [← e] at this
      omega
    have hrng := rdg_rng (N := N) (t := t) 4 0 p 0 (by decide) (by decide) (by decide)
    unfold nuG at hn
    rw [hm1.2.1] at hn
    generalize hq : rdg N t 4 p 0 = q at *
    obtain ⟨hq1, hq2, hn⟩ := hn
    have hr1 : 0 ≤ q.2.toInt := hrng.1
    have hr2 : q.2.toInt < 10000 := hrng.2
    rcases hn with ⟨hb, rfl, rfl⟩ | ⟨-, hb, -, -⟩ | ⟨hb, -, rfl, rfl⟩
    · have H := f_istore_n H k21_27 (l2 := [(3, .int (-1)), (2, .int s), (0, .ref 45), (1, .int (nI dp))]) rfl
      have H := f_iload_n H k21_28 (x := -1) rfl
      have H := f_iconst H k21_29 (v := -1) (by decide)
      rcases f_icmp_ne H k21_30 (t := 35) (by decide) with ⟨c, H⟩ | ⟨-, H⟩
      · exact absurd rfl c
      have H := f_iconst H k21_33 (v := 0) (by decide)
      have H := f_iret H k21_34
      refine ⟨_, _, H, Or.inr ⟨q.1, q.1, rfl, rdS_w (rdS_h hm1 hq1), mI_at, Rno_bad ?_⟩⟩
      rw [hstI, if_pos (hb.resolve_left hne)]
    · exfalso
      rcases hb with hb | hb
      · rw [Int32.lt_iff_toInt_lt, show (0 : Int32).toInt = 0 by decide] at hb
        omega
      · rw [Int32.lt_iff_toInt_lt, show (9999 : Int32).toInt = 9999 by decide] at hb
        omega
    · have H := f_istore_n H k21_27 (l2 := [(3, .int q.2), (2, .int s), (0, .ref 45), (1, .int (nI dp))]) rfl
      have H := f_iload_n H k21_28 (x := q.2) rfl
      have H := f_iconst H k21_29 (v := -1) (by decide)
      rcases f_icmp_ne H k21_30 (t := 35) (by decide) with ⟨-, H⟩ | ⟨c, H⟩
      · have H := f_aload_n H k21_35 (x := 45) rfl
        have H := f_iload_n H k21_36 (x := q.2) rfl
        obtain ⟨rv, m3, ⟨rfl, hm3, -⟩, H⟩ := f_inv H k21_37 (by decide +kernel) (as := [.int q.2]) (b := 45) (r := []) (by rfl) (c_emit (rdS_h hm1 hq1))
        have H := f_iconst H k21_40 (v := 1) (by decide)
        have H := f_iret H k21_41
        refine ⟨_, _, H, Or.inl ⟨q.1, rfl, hm3, by omega, Rok_go (is := []) ?_ Rok_nil⟩⟩
        rw [hstI, if_neg (fun z => hb (Or.inr z))]
      · rw [c, show (-1 : Int32).toInt = -1 by decide] at hr1
        omega
  · rcases f_if_eq H k21_12 (t := 42) (by decide) with ⟨-, H⟩ | ⟨c, H⟩
    · have hstI : stP N t (.atom dp) h = if isLet s then .inl ([], p + 1) else if s = 91 ∧ dp < 6 then .inl ([.sum (dp + 1), .tok 93], p + 1) else .inr p := by
        rw [hst, st_atom, if_neg hz]
      have hlt : s ≠ -1 → p < N := fun z => by
        by_cases h9 : p < N
        · exact h9
        · exact absurd (by rw [← hse, atv, if_neg h9]) z
      have H := f_iload_n H k21_42 (x := s) rfl
      obtain ⟨rv, m'', ⟨hz2, rfl⟩, H⟩ := f_ins H k21_43 (by decide +kernel) (as := [.int s]) (r := []) (by rfl) c_isLetter
      rcases hz2 with ⟨hz2, rfl⟩ | ⟨hz2, rfl⟩
      · rcases f_if_eq H k21_46 (t := 64) (by decide) with ⟨c, H⟩ | ⟨-, H⟩
        · exact absurd c (by decide)
        have hpN : p < N := hlt (fun z => by rw [z] at hz2; exact absurd hz2 (by decide))
        have H := f_aload_n H k21_49 (x := 45) rfl
        have H := f_getfield H k21_50 (ci := 2) (f := 0) (v := .ref 1) (by decide +kernel) (show rvl (m''.2.2 45 0) = _ by rw [e51]; rfl)
        obtain ⟨rv, m2, ⟨rfl, rfl⟩, H⟩ := f_inv H k21_53 (by decide +kernel) (as := []) (b := 1) (r := []) (by rfl) (c_step hm1.1)
        have H := f_aload_n H k21_56 (x := 45) rfl
        have H := f_iload_n H k21_57 (x := s) rfl
        have H := f_ineg H k21_58
        obtain ⟨rv, m3, ⟨rfl, hm3, -⟩, H⟩ := f_inv H k21_59 (by decide +kernel) (as := [.int (-s)]) (b := 45) (r := []) (by rfl) (c_emit (rdS_h hm1 (h2 := p + 1) (by omega)))
        have H := f_iconst H k21_62 (v := 1) (by decide)
        have H := f_iret H k21_63
        refine ⟨_, _, H, Or.inl ⟨p + 1, rfl, hm3, by omega, Rok_go (is := []) ?_ Rok_nil⟩⟩
        rw [hstI, if_pos hz2]
      · rcases f_if_eq H k21_46 (t := 64) (by decide) with ⟨-, H⟩ | ⟨c, H⟩
        · have no : ¬ (s = 91 ∧ dp < 6) → xF 21 (xw d) P n 76 [(2, .int s), (0, .ref 45), (1, .int (nI dp))] [] m'' → ∃ rv m', P rv m' ∧ rdO N t h [.atom dp] m rv m' := by
            intro hno H
            have H := f_aload_n H k21_76 (x := 45) rfl
            have H := f_getfield H k21_77 (ci := 2) (f := 0) (v := .ref 1) (by decide +kernel) (show rvl (m''.2.2 45 0) = _ by rw [e51]; rfl)
            obtain ⟨rv, m2, ⟨rfl, rfl⟩, H⟩ := f_inv H k21_80 (by decide +kernel) (as := []) (b := 1) (r := []) (by rfl) (c_refuseHere hm1.1)
            have H := f_iret H k21_83
            refine ⟨_, _, H, Or.inr ⟨p, p, rfl, rdS_w hm1, mI_at, Rno_bad ?_⟩⟩
            rw [hstI, if_neg hz2, if_neg hno]
          have H := f_iload_n H k21_64 (x := s) rfl
          have H := f_bipush H k21_65 (v := 91) (by decide)
          rcases f_icmp_ne H k21_67 (t := 76) (by decide) with ⟨c, H⟩ | ⟨c91, H⟩
          · exact no (fun z => c z.1) H
          have H := f_iload_n H k21_70 (x := nI dp) rfl
          have H := f_bipush H k21_71 (v := nI 6) (by decide)
          rcases f_icmp_lt H k21_73 (t := 84) (by decide) with ⟨c6, H⟩ | ⟨c6, H⟩
          · rw [Int32.lt_iff_toInt_lt, nI_toInt (by omega), nI_toInt (by omega)] at c6
            have hd6 : dp < 6 := by omega
            have hpN : p < N := hlt (fun z => by rw [z] at c91; exact absurd c91 (by decide))
            have H := f_aload_n H k21_84 (x := 45) rfl
            have H := f_getfield H k21_85 (ci := 2) (f := 0) (v := .ref 1) (by decide +kernel) (show rvl (m''.2.2 45 0) = _ by rw [e51]; rfl)
            obtain ⟨rv, m2, ⟨rfl, rfl⟩, H⟩ := f_inv H k21_88 (by decide +kernel) (as := []) (b := 1) (r := []) (by rfl) (c_step hm1.1)
            have H := f_aload_n H k21_91 (x := 45) rfl
            have H := f_iload_n H k21_92 (x := nI dp) rfl
            have H := f_iconst H k21_93 (v := nI 1) (by decide)
            have H := f_iadd H k21_94
            rw [r_ad] at H
            have hstS : stP N t (.atom dp) h = .inl ([.sum (dp + 1), .tok 93], p + 1) := by rw [hstI, if_neg hz2, if_pos ⟨c91, hd6⟩]
            obtain ⟨rv, m3, ho, H⟩ := f_inv H k21_95 (by decide +kernel) (as := [.int (nI (dp + 1))]) (b := 45) (r := []) (by rfl) (hs hd6 _ (p + 1) (rdS_h hm1 (by omega)))
            have bad : ∀ w h2, rdS m3 N h2 t → m3.1 1 3 = nI w → Rno N t [.sum (dp + 1)] (p + 1) w → xF 21 (xw d) P n 117 [(2, .int s), (0, .ref 45), (1, .int (nI dp))] [] m3 → ∃ rv m', P rv m' ∧ rdO N t h [.atom dp] m rv m' := by
              intro w h2 q1 q2 q3 H
              have H := f_iconst H k21_117 (v := 0) (by decide)
              have H := f_iret H k21_118
              exact ⟨_, _, H, Or.inr ⟨w, h2, rfl, q1, q2, Rno_go hstS (Rno_app1 (js := [.tok 93]) q3)⟩⟩
            rcases ho with ⟨h2, rfl, hm3, hle, hok⟩ | ⟨w, h2, rfl, hm3, hw, hno⟩
            · rcases f_if_eq H k21_98 (t := 117) (by decide) with ⟨c, H⟩ | ⟨-, H⟩
              · exact absurd c (by decide)
              have e53 := hm3.2.2.1
              have H := f_aload_n H k21_101 (x := 45) rfl
              have H := f_getfield H k21_102 (ci := 2) (f := 0) (v := .ref 1) (by decide +kernel) (show rvl (m3.2.2 45 0) = _ by rw [e53]; rfl)
              have H := f_bipush H k21_105 (v := 93) (by decide)
              obtain ⟨rv, m4, ht, H⟩ := f_inv H k21_107 (by decide +kernel) (as := [.int 93]) (b := 1) (r := []) (by rfl) (c_take (s := 93) hm3.1 (by decide))
              rw [hm3.2.1] at ht
              rcases ht with ⟨ha, rfl, rfl, hlt2⟩ | ⟨ha, rfl, rfl⟩
              · rcases f_if_eq H k21_110 (t := 117) (by decide) with ⟨c, H⟩ | ⟨-, H⟩
                · exact absurd c (by decide)
                have H := f_iconst H k21_113 (v := 1) (by decide)
                have H := f_goto H k21_114 (t := 118) (by decide)
                have H := f_iret H k21_118
                have hge2 : h2 ≤ sk N t h2 := sk_ge
                exact ⟨_, _, H, Or.inl ⟨sk N t h2 + 1, rfl, rdS_h hm3 (by omega), by omega, Rok_go hstS (Rok_app (is := [.sum (dp + 1)]) (js := [.tok 93]) hok (Rok_go (is := []) (by unfold stP; rw [st_tok, if_pos ha]) Rok_nil))⟩⟩
              · rcases f_if_eq H k21_110 (t := 117) (by decide) with ⟨-, H⟩ | ⟨c, H⟩
                · have H := f_iconst H k21_117 (v := 0) (by decide)
                  have H := f_iret H k21_118
                  exact ⟨_, _, H, Or.inr ⟨sk N t h2, sk N t h2, rfl, rdS_w (rdS_h hm3 (sk_le hm3.1.2.2.2.1)), mI_at, Rno_go hstS (Rno_app2 (is := [.sum (dp + 1)]) (js := [.tok 93]) hok (Rno_bad (by unfold stP; rw [st_tok, if_neg ha])))⟩⟩
                · exact absurd rfl c
            · rcases f_if_eq H k21_98 (t := 117) (by decide) with ⟨-, H⟩ | ⟨c, H⟩
              · exact bad w h2 hm3 hw hno H
              · exact absurd rfl c
          · rw [Int32.lt_iff_toInt_lt, nI_toInt (by omega), nI_toInt (by omega)] at c6
            exact no (fun z => by omega) H
        · exact absurd rfl c
    · exact absurd rfl c
theorem k20_0 : lkc 0 (kcode 20) = some (.aload_n 0) := by decide +kernel
theorem k20_1 : lkc 1 (kcode 20) = some (.iload_n 1) := by decide +kernel
theorem k20_2 : lkc 2 (kcode 20) = some (.invokevirtual 79) := by decide +kernel
theorem k20_5 : lkc 5 (kcode 20) = some (.ifCond .ne 5) := by decide +kernel
theorem k20_8 : lkc 8 (kcode 20) = some (.iconst 0) := by decide +kernel
theorem k20_9 : lkc 9 (kcode 20) = some (.ireturn) := by decide +kernel
theorem k20_10 : lkc 10 (kcode 20) = some (.iconst 0) := by decide +kernel
theorem k20_11 : lkc 11 (kcode 20) = some (.istore_n 2) := by decide +kernel
theorem k20_12 : lkc 12 (kcode 20) = some (.iload_n 2) := by decide +kernel
theorem k20_13 : lkc 13 (kcode 20) = some (.sipush 240) := by decide +kernel
theorem k20_16 : lkc 16 (kcode 20) = some (.if_icmp .ge 54) := by decide +kernel
theorem k20_19 : lkc 19 (kcode 20) = some (.aload_n 0) := by decide +kernel
theorem k20_20 : lkc 20 (kcode 20) = some (.getfield 15) := by decide +kernel
theorem k20_23 : lkc 23 (kcode 20) = some (.invokevirtual 35) := by decide +kernel
theorem k20_26 : lkc 26 (kcode 20) = some (.istore_n 3) := by decide +kernel
theorem k20_27 : lkc 27 (kcode 20) = some (.iload_n 3) := by decide +kernel
theorem k20_28 : lkc 28 (kcode 20) = some (.bipush 42) := by decide +kernel
theorem k20_30 : lkc 30 (kcode 20) = some (.if_icmp .eq 11) := by decide +kernel
theorem k20_33 : lkc 33 (kcode 20) = some (.iload_n 3) := by decide +kernel
theorem k20_34 : lkc 34 (kcode 20) = some (.bipush 47) := by decide +kernel
theorem k20_36 : lkc 36 (kcode 20) = some (.if_icmp .eq 5) := by decide +kernel
theorem k20_39 : lkc 39 (kcode 20) = some (.iconst 1) := by decide +kernel
theorem k20_40 : lkc 40 (kcode 20) = some (.ireturn) := by decide +kernel
theorem k20_41 : lkc 41 (kcode 20) = some (.aload_n 0) := by decide +kernel
theorem k20_42 : lkc 42 (kcode 20) = some (.getfield 15) := by decide +kernel
theorem k20_45 : lkc 45 (kcode 20) = some (.invokevirtual 63) := by decide +kernel
theorem k20_48 : lkc 48 (kcode 20) = some (.aload_n 0) := by decide +kernel
theorem k20_49 : lkc 49 (kcode 20) = some (.iload_n 1) := by decide +kernel
theorem k20_50 : lkc 50 (kcode 20) = some (.invokevirtual 79) := by decide +kernel
theorem k20_53 : lkc 53 (kcode 20) = some (.ifCond .ne 5) := by decide +kernel
theorem k20_56 : lkc 56 (kcode 20) = some (.iconst 0) := by decide +kernel
theorem k20_57 : lkc 57 (kcode 20) = some (.ireturn) := by decide +kernel
theorem k20_58 : lkc 58 (kcode 20) = some (.aload_n 0) := by decide +kernel
theorem k20_59 : lkc 59 (kcode 20) = some (.iload_n 3) := by decide +kernel
theorem k20_60 : lkc 60 (kcode 20) = some (.ineg) := by decide +kernel
theorem k20_61 : lkc 61 (kcode 20) = some (.invokevirtual 56) := by decide +kernel
theorem k20_64 : lkc 64 (kcode 20) = some (.iinc 2 1) := by decide +kernel
theorem k20_67 : lkc 67 (kcode 20) = some (.goto (-55)) := by decide +kernel
theorem k20_70 : lkc 70 (kcode 20) = some (.iconst 1) := by decide +kernel
theorem k20_71 : lkc 71 (kcode 20) = some (.ireturn) := by decide +kernel
theorem k19_0 : lkc 0 (kcode 19) = some (.aload_n 0) := by decide +kernel
theorem k19_1 : lkc 1 (kcode 19) = some (.iload_n 1) := by decide +kernel
theorem k19_2 : lkc 2 (kcode 19) = some (.invokevirtual 76) := by decide +kernel
theorem k19_5 : lkc 5 (kcode 19) = some (.ifCond .ne 5) := by decide +kernel
theorem k19_8 : lkc 8 (kcode 19) = some (.iconst 0) := by decide +kernel
theorem k19_9 : lkc 9 (kcode 19) = some (.ireturn) := by decide +kernel
theorem k19_10 : lkc 10 (kcode 19) = some (.iconst 0) := by decide +kernel
theorem k19_11 : lkc 11 (kcode 19) = some (.istore_n 2) := by decide +kernel
theorem k19_12 : lkc 12 (kcode 19) = some (.iload_n 2) := by decide +kernel
theorem k19_13 : lkc 13 (kcode 19) = some (.sipush 240) := by decide +kernel
theorem k19_16 : lkc 16 (kcode 19) = some (.if_icmp .ge 54) := by decide +kernel
theorem k19_19 : lkc 19 (kcode 19) = some (.aload_n 0) := by decide +kernel
theorem k19_20 : lkc 20 (kcode 19) = some (.getfield 15) := by decide +kernel
theorem k19_23 : lkc 23 (kcode 19) = some (.invokevirtual 35) := by decide +kernel
theorem k19_26 : lkc 26 (kcode 19) = some (.istore_n 3) := by decide +kernel
theorem k19_27 : lkc 27 (kcode 19) = some (.iload_n 3) := by decide +kernel
theorem k19_28 : lkc 28 (kcode 19) = some (.bipush 43) := by decide +kernel
theorem k19_30 : lkc 30 (kcode 19) = some (.if_icmp .eq 11) := by decide +kernel
theorem k19_33 : lkc 33 (kcode 19) = some (.iload_n 3) := by decide +kernel
theorem k19_34 : lkc 34 (kcode 19) = some (.bipush 45) := by decide +kernel
theorem k19_36 : lkc 36 (kcode 19) = some (.if_icmp .eq 5) := by decide +kernel
theorem k19_39 : lkc 39 (kcode 19) = some (.iconst 1) := by decide +kernel
theorem k19_40 : lkc 40 (kcode 19) = some (.ireturn) := by decide +kernel
theorem k19_41 : lkc 41 (kcode 19) = some (.aload_n 0) := by decide +kernel
theorem k19_42 : lkc 42 (kcode 19) = some (.getfield 15) := by decide +kernel
theorem k19_45 : lkc 45 (kcode 19) = some (.invokevirtual 63) := by decide +kernel
theorem k19_48 : lkc 48 (kcode 19) = some (.aload_n 0) := by decide +kernel
theorem k19_49 : lkc 49 (kcode 19) = some (.iload_n 1) := by decide +kernel
theorem k19_50 : lkc 50 (kcode 19) = some (.invokevirtual 76) := by decide +kernel
theorem k19_53 : lkc 53 (kcode 19) = some (.ifCond .ne 5) := by decide +kernel
theorem k19_56 : lkc 56 (kcode 19) = some (.iconst 0) := by decide +kernel
theorem k19_57 : lkc 57 (kcode 19) = some (.ireturn) := by decide +kernel
theorem k19_58 : lkc 58 (kcode 19) = some (.aload_n 0) := by decide +kernel
theorem k19_59 : lkc 59 (kcode 19) = some (.iload_n 3) := by decide +kernel
theorem k19_60 : lkc 60 (kcode 19) = some (.ineg) := by decide +kernel
theorem k19_61 : lkc 61 (kcode 19) = some (.invokevirtual 56) := by decide +kernel
theorem k19_64 : lkc 64 (kcode 19) = some (.iinc 2 1) := by decide +kernel
theorem k19_67 : lkc 67 (kcode 19) = some (.goto (-55)) := by decide +kernel
theorem k19_70 : lkc 70 (kcode 19) = some (.iconst 1) := by decide +kernel
theorem k19_71 : lkc 71 (kcode 19) = some (.ireturn) := by decide +kernel
set_option maxHeartbeats 4000000 in
theorem c_readTerm {m : xM} {N h dp : Nat} {t : Nat → Int32} (hm : rdS m N h t) (hdp : dp ≤ 6) (hA : ∀ m h, rdS m N h t → fC 21 [.ref 45, .int (nI dp)] m (rdO N t h [.atom dp] m)) : fC 20 [.ref 45, .int (nI dp)] m (rdO N t h [.term dp] m) := by
  refine fC_of (by decide) (fun d n P H => ?_)
  have hN := hm.1.2.2.1
  have key : ∀ n r l h2 m2, rdS m2 N h2 t → r ≤ h2 → lkl 0 l = some (.ref 45) → lkl 2 l = some (.int (nI r)) → (∀ s, sv1 3 (.int s) l = [(3, .int s), (2, .int (nI r)), (0, .ref 45), (1, .int (nI dp))]) → xF 20 (xw d) P (n + 1) 12 l [] m2 → ∃ rv m', P rv m' ∧ rdO N t h2 [.termL dp] m2 rv m' := by
    intro n
    induction n with
    | zero => exact fun r l h2 m2 _ _ _ q2 _ H => (xF_0 (f1_iload_n H k20_12 (x := nI r) q2)).elim
    | succ n ih =>
      intro r l h2 m2 hm2 hr q0 q2 q3 H
      have hh := hm2.1.2.2.2.1
      have hp : sk N t h2 ≤ N := sk_le hh
      have hge : h2 ≤ sk N t h2 := sk_ge
      have e5 := hm2.2.2.1
      have H := f1_iload_n H k20_12 (x := nI r) q2
      have H := f_sipush H k20_13 (v := nI 240) (by decide)
      rcases f_icmp_ge H k20_16 (t := 70) (by decide) with ⟨c, H⟩ | ⟨c, H⟩
      · rw [nI_lt2 (by omega) (by omega)] at c
        have H := f_iconst H k20_70 (v := 1) (by decide)
        have H := f_iret H k20_71
        have e : h2 = N := by omega
        refine ⟨_, _, H, Or.inl ⟨h2, rfl, hm2, Nat.le_refl _, Rok_go (is := []) ?_ Rok_nil⟩⟩
        unfold stP
        rw [st_termL, show sk N t h2 = h2 from sk_no (fun z => by omega), show atv N t h2 = -1 by rw [atv, if_neg (by omega)], if_neg (by decide)]
      · have H := f_aload_n H k20_19 (x := 45) q0
        have H := f_getfield H k20_20 (ci := 2) (f := 0) (v := .ref 1) (by decide +kernel) (show rvl (m2.2.2 45 0) = _ by rw [e5]; rfl)
        obtain ⟨rv, m1, ⟨rfl, e9⟩, H⟩ := f_inv H k20_23 (by decide +kernel) (as := []) (b := 1) (r := []) (by rfl) (c_ahead hm2.1)
        rw [hm2.2.1] at H e9
        have hm1 : rdS m1 N (sk N t h2) t := by rw [e9]; exact rdS_h hm2 hp
        clear e9
        have hst : ∀ i, stP N t i h2 = stI N t h2 (sk N t h2) (atv N t (sk N t h2)) i := fun i => rfl
        have e51 := hm1.2.2.1
        have hlt : atv N t (sk N t h2) ≠ -1 → sk N t h2 < N := fun z => by
          by_cases h9 : sk N t h2 < N
          · exact h9
          · exact absurd (by rw [atv, if_neg h9]) z
        generalize sk N t h2 = p at *
        generalize atv N t p = s at *
        have H := f_istore_n H k20_26 (q3 s)
        have H := f_iload_n H k20_27 (x := s) rfl
        have H := f_bipush H k20_28 (v := 42) (by decide)
        have go : (s = 42 ∨ s = 47) → xF 20 (xw d) P (n + 1) 41 [(3, .int s), (2, .int (nI r)), (0, .ref 45), (1, .int (nI dp))] [] m1 → ∃ rv m', P rv m' ∧ rdO N t h2 [.termL dp] m2 rv m' := by
          intro hs H
          have hpN : p < N := hlt (fun z => by rw [z] at hs; exact absurd hs (by decide))
          have hstS : stP N t (.termL dp) h2 = .inl ([.atom dp, .termL dp], p + 1) := by rw [hst, st_termL, if_pos hs]
          have H := f_aload_n H k20_41 (x := 45) rfl
          have H := f_getfield H k20_42 (ci := 2) (f := 0) (v := .ref 1) (by decide +kernel) (show rvl (m1.2.2 45 0) = _ by rw [e51]; rfl)
          obtain ⟨rv, m3, ⟨rfl, e9⟩, H⟩ := f_inv H k20_45 (by decide +kernel) (as := []) (b := 1) (r := []) (by rfl) (c_step hm1.1)
          have hm3 : rdS m3 N (p + 1) t := by rw [e9]; exact rdS_h hm1 (by omega)
          clear e9
          have H := f_aload_n H k20_48 (x := 45) rfl
          have H := f_iload_n H k20_49 (x := nI dp) rfl
          obtain ⟨rv, m4, ho, H⟩ := f_inv H k20_50 (by decide +kernel) (as := [.int (nI dp)]) (b := 45) (r := []) (by rfl) (hA m3 (p + 1) hm3)
          rcases ho with ⟨h3, rfl, hm4, hle, hok⟩ | ⟨w, h3, rfl, hm4, hw, hno⟩
          · rcases f_if_ne H k20_53 (t := 58) (by decide) with ⟨-, H⟩ | ⟨c, H⟩
            · have H := f_aload_n H k20_58 (x := 45) rfl
              have H := f_iload_n H k20_59 (x := s) rfl
              have H := f_ineg H k20_60
              obtain ⟨rv, m5, ⟨rfl, hm5, -⟩, H⟩ := f_inv H k20_61 (by decide +kernel) (as := [.int (-s)]) (b := 45) (r := []) (by rfl) (c_emit hm4)
              have H := f_iinc H k20_64 (x := nI r) rfl (l2 := [(2, .int (nI r + nI 1)), (3, .int s), (0, .ref 45), (1, .int (nI dp))]) rfl
              have H := f_goto H k20_67 (t := 12) (by decide)
              rw [r_ad] at H
              obtain ⟨rv, m6, hP, ho⟩ := ih (r + 1) _ h3 m5 hm5 (by omega) rfl rfl (fun _ => rfl) H
              refine ⟨rv, m6, hP, ?_⟩
              rcases ho with ⟨h4, e1, q4, q5, q6⟩ | ⟨w, h4, e1, q4, q5, q6⟩
              · exact Or.inl ⟨h4, e1, q4, by omega, Rok_go hstS (Rok_app (is := [.atom dp]) (js := [.termL dp]) hok q6)⟩
              · exact Or.inr ⟨w, h4, e1, q4, q5, Rno_go hstS (Rno_app2 (is := [.atom dp]) (js := [.termL dp]) hok q6)⟩
            · exact absurd c (by decide)
          · rcases f_if_ne H k20_53 (t := 58) (by decide) with ⟨c, H⟩ | ⟨-, H⟩
            · exact absurd rfl c
            · have H := f_iconst H k20_56 (v := 0) (by decide)
              have H := f_iret H k20_57
              exact ⟨_, _, H, Or.inr ⟨w, h3, rfl, hm4, hw, Rno_go hstS (Rno_app1 (js := [.termL dp]) hno)⟩⟩
        rcases f_icmp_eq H k20_30 (t := 41) (by decide) with ⟨c1, H⟩ | ⟨c1, H⟩
        · exact go (Or.inl c1) H
        have H := f_iload_n H k20_33 (x := s) rfl
        have H := f_bipush H k20_34 (v := 47) (by decide)
        rcases f_icmp_eq H k20_36 (t := 41) (by decide) with ⟨c2, H⟩ | ⟨c2, H⟩
        · exact go (Or.inr c2) H
        have H := f_iconst H k20_39 (v := 1) (by decide)
        have H := f_iret H k20_40
        exact ⟨_, _, H, Or.inl ⟨p, rfl, hm1, hge, Rok_go (is := []) (by rw [hst, st_termL, if_neg (fun z => z.elim c1 c2)]) Rok_nil⟩⟩
  have hstT : stP N t (.term dp) h = .inl ([.atom dp, .termL dp], h) := rfl
  have H := f_aload_n H k20_0 (x := 45) rfl
  have H := f_iload_n H k20_1 (x := nI dp) rfl
  obtain ⟨rv, m1, ho, H⟩ := f_inv H k20_2 (by decide +kernel) (as := [.int (nI dp)]) (b := 45) (r := []) (by rfl) (hA m h hm)
  rcases ho with ⟨h3, rfl, hm4, hle, hok⟩ | ⟨w, h3, rfl, hm4, hw, hno⟩
  · rcases f_if_ne H k20_5 (t := 10) (by decide) with ⟨-, H⟩ | ⟨c, H⟩
    · have H := f_iconst H k20_10 (v := nI 0) (by decide)
      have H := f_istore_n H k20_11 (l2 := [(2, .int (nI 0)), (0, .ref 45), (1, .int (nI dp))]) rfl
      obtain ⟨rv, m6, hP, ho⟩ := key n 0 _ h3 m1 hm4 (Nat.zero_le _) rfl rfl (fun _ => rfl) (f_up H (Nat.le_succ _))
      refine ⟨rv, m6, hP, ?_⟩
      rcases ho with ⟨h4, e1, q4, q5, q6⟩ | ⟨w, h4, e1, q4, q5, q6⟩
      · exact Or.inl ⟨h4, e1, q4, by omega, Rok_go hstT (Rok_app (is := [.atom dp]) (js := [.termL dp]) hok q6)⟩
      · exact Or.inr ⟨w, h4, e1, q4, q5, Rno_go hstT (Rno_app2 (is := [.atom dp]) (js := [.termL dp]) hok q6)⟩
    · exact absurd c (by decide)
  · rcases f_if_ne H k20_5 (t := 10) (by decide) with ⟨c, H⟩ | ⟨-, H⟩
    · exact absurd rfl c
    · have H := f_iconst H k20_8 (v := 0) (by decide)
      have H := f_iret H k20_9
      exact ⟨_, _, H, Or.inr ⟨w, h3, rfl, hm4, hw, Rno_go hstT (Rno_app1 (js := [.termL dp]) hno)⟩⟩
set_option maxHeartbeats 4000000 in
theorem c_readSum {m : xM} {N h dp : Nat} {t : Nat → Int32} (hm : rdS m N h t) (hdp : dp ≤ 6) (hA : ∀ m h, rdS m N h t → fC 20 [.ref 45, .int (nI dp)] m (rdO N t h [.term dp] m)) : fC 19 [.ref 45, .int (nI dp)] m (rdO N t h [.sum dp] m) := by
  refine fC_of (by decide) (fun d n P H => ?_)
  have hN := hm.1.2.2.1
  have key : ∀ n r l h2 m2, rdS m2 N h2 t → r ≤ h2 → lkl 0 l = some (.ref 45) → lkl 2 l = some (.int (nI r)) → (∀ s, sv1 3 (.int s) l = [(3, .int s), (2, .int (nI r)), (0, .ref 45), (1, .int (nI dp))]) → xF 19 (xw d) P (n + 1) 12 l [] m2 → ∃ rv m', P rv m' ∧ rdO N t h2 [.sumL dp] m2 rv m' := by
    intro n
    induction n with
    | zero => exact fun r l h2 m2 _ _ _ q2 _ H => (xF_0 (f1_iload_n H k19_12 (x := nI r) q2)).elim
    | succ n ih =>
      intro r l h2 m2 hm2 hr q0 q2 q3 H
      have hh := hm2.1.2.2.2.1
      have hp : sk N t h2 ≤ N := sk_le hh
      have hge : h2 ≤ sk N t h2 := sk_ge
      have e5 := hm2.2.2.1
      have H := f1_iload_n H k19_12 (x := nI r) q2
      have H := f_sipush H k19_13 (v := nI 240) (by decide)
      rcases f_icmp_ge H k19_16 (t := 70) (by decide) with ⟨c, H⟩ | ⟨c, H⟩
      · rw [nI_lt2 (by omega) (by omega)] at c
        have H := f_iconst H k19_70 (v := 1) (by decide)
        have H := f_iret H k19_71
        have e : h2 = N := by omega
        refine ⟨_, _, H, Or.inl ⟨h2, rfl, hm2, Nat.le_refl _, Rok_go (is := []) ?_ Rok_nil⟩⟩
        unfold stP
        rw [st_sumL, show sk N t h2 = h2 from sk_no (fun z => by omega), show atv N t h2 = -1 by rw [atv, if_neg (by omega)], if_neg (by decide)]
      · have H := f_aload_n H k19_19 (x := 45) q0
        have H := f_getfield H k19_20 (ci := 2) (f := 0) (v := .ref 1) (by decide +kernel) (show rvl (m2.2.2 45 0) = _ by rw [e5]; rfl)
        obtain ⟨rv, m1, ⟨rfl, e9⟩, H⟩ := f_inv H k19_23 (by decide +kernel) (as := []) (b := 1) (r := []) (by rfl) (c_ahead hm2.1)
        rw [hm2.2.1] at H e9
        have hm1 : rdS m1 N (sk N t h2) t := by rw [e9]; exact rdS_h hm2 hp
        clear e9
        have hst : ∀ i, stP N t i h2 = stI N t h2 (sk N t h2) (atv N t (sk N t h2)) i := fun i => rfl
        have e51 := hm1.2.2.1
        have hlt : atv N t (sk N t h2) ≠ -1 → sk N t h2 < N := fun z => by
          by_cases h9 : sk N t h2 < N
          · exact h9
          · exact absurd (by rw [atv, if_neg h9]) z
        generalize sk N t h2 = p at *
        generalize atv N t p = s at *
        have H := f_istore_n H k19_26 (q3 s)
        have H := f_iload_n H k19_27 (x := s) rfl
        have H := f_bipush H k19_28 (v := 43) (by decide)
        have go : (s = 43 ∨ s = 45) → xF 19 (xw d) P (n + 1) 41 [(3, .int s), (2, .int (nI r)), (0, .ref 45), (1, .int (nI dp))] [] m1 → ∃ rv m', P rv m' ∧ rdO N t h2 [.sumL dp] m2 rv m' := by
          intro hs H
          have hpN : p < N := hlt (fun z => by rw [z] at hs; exact absurd hs (by decide))
          have hstS : stP N t (.sumL dp) h2 = .inl ([.term dp, .sumL dp], p + 1) := by rw [hst, st_sumL, if_pos hs]
          have H := f_aload_n H k19_41 (x := 45) rfl
          have H := f_getfield H k19_42 (ci := 2) (f := 0) (v := .ref 1) (by decide +kernel) (show rvl (m1.2.2 45 0) = _ by rw [e51]; rfl)
          obtain ⟨rv, m3, ⟨rfl, e9⟩, H⟩ := f_inv H k19_45 (by decide +kernel) (as := []) (b := 1) (r := []) (by rfl) (c_step hm1.1)
          have hm3 : rdS m3 N (p + 1) t := by rw [e9]; exact rdS_h hm1 (by omega)
          clear e9
          have H := f_aload_n H k19_48 (x := 45) rfl
          have H := f_iload_n H k19_49 (x := nI dp) rfl
          obtain ⟨rv, m4, ho, H⟩ := f_inv H k19_50 (by decide +kernel) (as := [.int (nI dp)]) (b := 45) (r := []) (by rfl) (hA m3 (p + 1) hm3)
          rcases ho with ⟨h3, rfl, hm4, hle, hok⟩ | ⟨w, h3, rfl, hm4, hw, hno⟩
          · rcases f_if_ne H k19_53 (t := 58) (by decide) with ⟨-, H⟩ | ⟨c, H⟩
            · have H := f_aload_n H k19_58 (x := 45) rfl
              have H := f_iload_n H k19_59 (x := s) rfl
              have H := f_ineg H k19_60
              obtain ⟨rv, m5, ⟨rfl, hm5, -⟩, H⟩ := f_inv H k19_61 (by decide +kernel) (as := [.int (-s)]) (b := 45) (r := []) (by rfl) (c_emit hm4)
              have H := f_iinc H k19_64 (x := nI r) rfl (l2 := [(2, .int (nI r + nI 1)), (3, .int s), (0, .ref 45), (1, .int (nI dp))]) rfl
              have H := f_goto H k19_67 (t := 12) (by decide)
              rw [r_ad] at H
              obtain ⟨rv, m6, hP, ho⟩ := ih (r + 1) _ h3 m5 hm5 (by omega) rfl rfl (fun _ => rfl) H
              refine ⟨rv, m6, hP, ?_⟩
              rcases ho with ⟨h4, e1, q4, q5, q6⟩ | ⟨w, h4, e1, q4, q5, q6⟩
              · exact Or.inl ⟨h4, e1, q4, by omega, Rok_go hstS (Rok_app (is := [.term dp]) (js := [.sumL dp]) hok q6)⟩
              · exact Or.inr ⟨w, h4, e1, q4, q5, Rno_go hstS (Rno_app2 (is := [.term dp]) (js := [.sumL dp]) hok q6)⟩
            · exact absurd c (by decide)
          · rcases f_if_ne H k19_53 (t := 58) (by decide) with ⟨c, H⟩ | ⟨-, H⟩
            · exact absurd rfl c
            · have H := f_iconst H k19_56 (v := 0) (by decide)
              have H := f_iret H k19_57
              exact ⟨_, _, H, Or.inr ⟨w, h3, rfl, hm4, hw, Rno_go hstS (Rno_app1 (js := [.sumL dp]) hno)⟩⟩
        rcases f_icmp_eq H k19_30 (t := 41) (by decide) with ⟨c1, H⟩ | ⟨c1, H⟩
        · exact go (Or.inl c1) H
        have H := f_iload_n H k19_33 (x := s) rfl
        have H := f_bipush H k19_34 (v := 45) (by decide)
        rcases f_icmp_eq H k19_36 (t := 41) (by decide) with ⟨c2, H⟩ | ⟨c2, H⟩
        · exact go (Or.inr c2) H
        have H := f_iconst H k19_39 (v := 1) (by decide)
        have H := f_iret H k19_40
        exact ⟨_, _, H, Or.inl ⟨p, rfl, hm1, hge, Rok_go (is := []) (by rw [hst, st_sumL, if_neg (fun z => z.elim c1 c2)]) Rok_nil⟩⟩
  have hstT : stP N t (.sum dp) h = .inl ([.term dp, .sumL dp], h) := rfl
  have H := f_aload_n H k19_0 (x := 45) rfl
  have H := f_iload_n H k19_1 (x := nI dp) rfl
  obtain ⟨rv, m1, ho, H⟩ := f_inv H k19_2 (by decide +kernel) (as := [.int (nI dp)]) (b := 45) (r := []) (by rfl) (hA m h hm)
  rcases ho with ⟨h3, rfl, hm4, hle, hok⟩ | ⟨w, h3, rfl, hm4, hw, hno⟩
  · rcases f_if_ne H k19_5 (t := 10) (by decide) with ⟨-, H⟩ | ⟨c, H⟩
    · have H := f_iconst H k19_10 (v := nI 0) (by decide)
      have H := f_istore_n H k19_11 (l2 := [(2, .int (nI 0)), (0, .ref 45), (1, .int (nI dp))]) rfl
      obtain ⟨rv, m6, hP, ho⟩ := key n 0 _ h3 m1 hm4 (Nat.zero_le _) rfl rfl (fun _ => rfl) (f_up H (Nat.le_succ _))
      refine ⟨rv, m6, hP, ?_⟩
      rcases ho with ⟨h4, e1, q4, q5, q6⟩ | ⟨w, h4, e1, q4, q5, q6⟩
      · exact Or.inl ⟨h4, e1, q4, by omega, Rok_go hstT (Rok_app (is := [.term dp]) (js := [.sumL dp]) hok q6)⟩
      · exact Or.inr ⟨w, h4, e1, q4, q5, Rno_go hstT (Rno_app2 (is := [.term dp]) (js := [.sumL dp]) hok q6)⟩
    · exact absurd c (by decide)
  · rcases f_if_ne H k19_5 (t := 10) (by decide) with ⟨c, H⟩ | ⟨-, H⟩
    · exact absurd rfl c
    · have H := f_iconst H k19_8 (v := 0) (by decide)
      have H := f_iret H k19_9
      exact ⟨_, _, H, Or.inr ⟨w, h3, rfl, hm4, hw, Rno_go hstT (Rno_app1 (js := [.sumL dp]) hno)⟩⟩
/-- sums at every depth -/
theorem c_sum {N : Nat} {t : Nat → Int32} : ∀ j dp, dp + j = 6 → ∀ m h, rdS m N h t → fC 19 [.ref 45, .int (nI dp)] m (rdO N t h [.sum dp] m) := by
  intro j
  induction j with
  | zero => exact fun dp hd m h hm => c_readSum hm (by omega) (fun m h hm => c_readTerm hm (by omega) (fun m h hm => c_readAtom hm (by omega) (fun z => by omega)))
  | succ j ih => exact fun dp hd m h hm => c_readSum hm (by omega) (fun m h hm => c_readTerm hm (by omega) (fun m h hm => c_readAtom hm (by omega) (fun _ m h hm => ih (dp + 1) (by omega) m h hm)))
theorem k23_0 : lkc 0 (kcode 23) = some (.iload_n 0) := by decide +kernel
theorem k23_1 : lkc 1 (kcode 23) = some (.bipush 61) := by decide +kernel
theorem k23_3 : lkc 3 (kcode 23) = some (.if_icmp .eq 15) := by decide +kernel
theorem k23_6 : lkc 6 (kcode 23) = some (.iload_n 0) := by decide +kernel
theorem k23_7 : lkc 7 (kcode 23) = some (.bipush 60) := by decide +kernel
theorem k23_9 : lkc 9 (kcode 23) = some (.if_icmp .eq 9) := by decide +kernel
theorem k23_12 : lkc 12 (kcode 23) = some (.iload_n 0) := by decide +kernel
theorem k23_13 : lkc 13 (kcode 23) = some (.bipush 62) := by decide +kernel
theorem k23_15 : lkc 15 (kcode 23) = some (.if_icmp .ne 7) := by decide +kernel
theorem k23_18 : lkc 18 (kcode 23) = some (.iconst 1) := by decide +kernel
theorem k23_19 : lkc 19 (kcode 23) = some (.goto 4) := by decide +kernel
theorem k23_22 : lkc 22 (kcode 23) = some (.iconst 0) := by decide +kernel
theorem k23_23 : lkc 23 (kcode 23) = some (.ireturn) := by decide +kernel
theorem k17_0 : lkc 0 (kcode 17) = some (.iload_n 2) := by decide +kernel
theorem k17_1 : lkc 1 (kcode 17) = some (.ifCond .ne 40) := by decide +kernel
theorem k17_4 : lkc 4 (kcode 17) = some (.aload_n 0) := by decide +kernel
theorem k17_5 : lkc 5 (kcode 17) = some (.getfield 15) := by decide +kernel
theorem k17_8 : lkc 8 (kcode 17) = some (.invokevirtual 35) := by decide +kernel
theorem k17_11 : lkc 11 (kcode 17) = some (.istore_n 3) := by decide +kernel
theorem k17_12 : lkc 12 (kcode 17) = some (.iload_n 3) := by decide +kernel
theorem k17_13 : lkc 13 (kcode 17) = some (.bipush 33) := by decide +kernel
theorem k17_15 : lkc 15 (kcode 17) = some (.if_icmp .eq 9) := by decide +kernel
theorem k17_18 : lkc 18 (kcode 17) = some (.iload_n 3) := by decide +kernel
theorem k17_19 : lkc 19 (kcode 17) = some (.bipush 40) := by decide +kernel
theorem k17_21 : lkc 21 (kcode 17) = some (.if_icmp .ne 10) := by decide +kernel
theorem k17_24 : lkc 24 (kcode 17) = some (.aload_n 0) := by decide +kernel
theorem k17_25 : lkc 25 (kcode 17) = some (.iload_n 1) := by decide +kernel
theorem k17_26 : lkc 26 (kcode 17) = some (.iload_n 3) := by decide +kernel
theorem k17_27 : lkc 27 (kcode 17) = some (.invokevirtual 69) := by decide +kernel
theorem k17_30 : lkc 30 (kcode 17) = some (.ireturn) := by decide +kernel
theorem k17_31 : lkc 31 (kcode 17) = some (.aload_n 0) := by decide +kernel
theorem k17_32 : lkc 32 (kcode 17) = some (.iload_n 1) := by decide +kernel
theorem k17_33 : lkc 33 (kcode 17) = some (.invokevirtual 46) := by decide +kernel
theorem k17_36 : lkc 36 (kcode 17) = some (.ifCond .ne 5) := by decide +kernel
theorem k17_39 : lkc 39 (kcode 17) = some (.iconst 0) := by decide +kernel
theorem k17_40 : lkc 40 (kcode 17) = some (.ireturn) := by decide +kernel
theorem k17_41 : lkc 41 (kcode 17) = some (.aload_n 0) := by decide +kernel
theorem k17_42 : lkc 42 (kcode 17) = some (.getfield 15) := by decide +kernel
theorem k17_45 : lkc 45 (kcode 17) = some (.invokevirtual 35) := by decide +kernel
theorem k17_48 : lkc 48 (kcode 17) = some (.istore_n 3) := by decide +kernel
theorem k17_49 : lkc 49 (kcode 17) = some (.iload_n 3) := by decide +kernel
theorem k17_50 : lkc 50 (kcode 17) = some (.invokestatic 49) := by decide +kernel
theorem k17_53 : lkc 53 (kcode 17) = some (.ifCond .ne 11) := by decide +kernel
theorem k17_56 : lkc 56 (kcode 17) = some (.aload_n 0) := by decide +kernel
theorem k17_57 : lkc 57 (kcode 17) = some (.getfield 15) := by decide +kernel
theorem k17_60 : lkc 60 (kcode 17) = some (.invokevirtual 73) := by decide +kernel
theorem k17_63 : lkc 63 (kcode 17) = some (.ireturn) := by decide +kernel
theorem k17_64 : lkc 64 (kcode 17) = some (.aload_n 0) := by decide +kernel
theorem k17_65 : lkc 65 (kcode 17) = some (.getfield 15) := by decide +kernel
theorem k17_68 : lkc 68 (kcode 17) = some (.invokevirtual 63) := by decide +kernel
theorem k17_71 : lkc 71 (kcode 17) = some (.aload_n 0) := by decide +kernel
theorem k17_72 : lkc 72 (kcode 17) = some (.iload_n 1) := by decide +kernel
theorem k17_73 : lkc 73 (kcode 17) = some (.invokevirtual 46) := by decide +kernel
theorem k17_76 : lkc 76 (kcode 17) = some (.ifCond .ne 5) := by decide +kernel
theorem k17_79 : lkc 79 (kcode 17) = some (.iconst 0) := by decide +kernel
theorem k17_80 : lkc 80 (kcode 17) = some (.ireturn) := by decide +kernel
theorem k17_81 : lkc 81 (kcode 17) = some (.aload_n 0) := by decide +kernel
theorem k17_82 : lkc 82 (kcode 17) = some (.iload_n 3) := by decide +kernel
theorem k17_83 : lkc 83 (kcode 17) = some (.ineg) := by decide +kernel
theorem k17_84 : lkc 84 (kcode 17) = some (.invokevirtual 56) := by decide +kernel
theorem k17_87 : lkc 87 (kcode 17) = some (.iconst 1) := by decide +kernel
theorem k17_88 : lkc 88 (kcode 17) = some (.ireturn) := by decide +kernel
theorem k18_0 : lkc 0 (kcode 18) = some (.iload_n 1) := by decide +kernel
theorem k18_1 : lkc 1 (kcode 18) = some (.bipush 6) := by decide +kernel
theorem k18_3 : lkc 3 (kcode 18) = some (.if_icmp .lt 11) := by decide +kernel
theorem k18_6 : lkc 6 (kcode 18) = some (.aload_n 0) := by decide +kernel
theorem k18_7 : lkc 7 (kcode 18) = some (.getfield 15) := by decide +kernel
theorem k18_10 : lkc 10 (kcode 18) = some (.invokevirtual 73) := by decide +kernel
theorem k18_13 : lkc 13 (kcode 18) = some (.ireturn) := by decide +kernel
theorem k18_14 : lkc 14 (kcode 18) = some (.aload_n 0) := by decide +kernel
theorem k18_15 : lkc 15 (kcode 18) = some (.getfield 15) := by decide +kernel
theorem k18_18 : lkc 18 (kcode 18) = some (.invokevirtual 63) := by decide +kernel
theorem k18_21 : lkc 21 (kcode 18) = some (.iload_n 2) := by decide +kernel
theorem k18_22 : lkc 22 (kcode 18) = some (.bipush 40) := by decide +kernel
theorem k18_24 : lkc 24 (kcode 18) = some (.if_icmp .ne 32) := by decide +kernel
theorem k18_27 : lkc 27 (kcode 18) = some (.aload_n 0) := by decide +kernel
theorem k18_28 : lkc 28 (kcode 18) = some (.iload_n 1) := by decide +kernel
theorem k18_29 : lkc 29 (kcode 18) = some (.iconst 1) := by decide +kernel
theorem k18_30 : lkc 30 (kcode 18) = some (.iadd) := by decide +kernel
theorem k18_31 : lkc 31 (kcode 18) = some (.iconst 0) := by decide +kernel
theorem k18_32 : lkc 32 (kcode 18) = some (.invokevirtual 52) := by decide +kernel
theorem k18_35 : lkc 35 (kcode 18) = some (.ifCond .eq 19) := by decide +kernel
theorem k18_38 : lkc 38 (kcode 18) = some (.aload_n 0) := by decide +kernel
theorem k18_39 : lkc 39 (kcode 18) = some (.getfield 15) := by decide +kernel
theorem k18_42 : lkc 42 (kcode 18) = some (.bipush 41) := by decide +kernel
theorem k18_44 : lkc 44 (kcode 18) = some (.invokevirtual 39) := by decide +kernel
theorem k18_47 : lkc 47 (kcode 18) = some (.ifCond .eq 7) := by decide +kernel
theorem k18_50 : lkc 50 (kcode 18) = some (.iconst 1) := by decide +kernel
theorem k18_51 : lkc 51 (kcode 18) = some (.goto 4) := by decide +kernel
theorem k18_54 : lkc 54 (kcode 18) = some (.iconst 0) := by decide +kernel
theorem k18_55 : lkc 55 (kcode 18) = some (.ireturn) := by decide +kernel
theorem k18_56 : lkc 56 (kcode 18) = some (.aload_n 0) := by decide +kernel
theorem k18_57 : lkc 57 (kcode 18) = some (.iload_n 1) := by decide +kernel
theorem k18_58 : lkc 58 (kcode 18) = some (.iconst 1) := by decide +kernel
theorem k18_59 : lkc 59 (kcode 18) = some (.iadd) := by decide +kernel
theorem k18_60 : lkc 60 (kcode 18) = some (.iconst 0) := by decide +kernel
theorem k18_61 : lkc 61 (kcode 18) = some (.invokevirtual 66) := by decide +kernel
theorem k18_64 : lkc 64 (kcode 18) = some (.ifCond .ne 5) := by decide +kernel
theorem k18_67 : lkc 67 (kcode 18) = some (.iconst 0) := by decide +kernel
theorem k18_68 : lkc 68 (kcode 18) = some (.ireturn) := by decide +kernel
theorem k18_69 : lkc 69 (kcode 18) = some (.aload_n 0) := by decide +kernel
theorem k18_70 : lkc 70 (kcode 18) = some (.bipush (-33)) := by decide +kernel
theorem k18_72 : lkc 72 (kcode 18) = some (.invokevirtual 56) := by decide +kernel
theorem k18_75 : lkc 75 (kcode 18) = some (.iconst 1) := by decide +kernel
theorem k18_76 : lkc 76 (kcode 18) = some (.ireturn) := by decide +kernel
theorem k16_0 : lkc 0 (kcode 16) = some (.aload_n 0) := by decide +kernel
theorem k16_1 : lkc 1 (kcode 16) = some (.iload_n 1) := by decide +kernel
theorem k16_2 : lkc 2 (kcode 16) = some (.iload_n 2) := by decide +kernel
theorem k16_3 : lkc 3 (kcode 16) = some (.invokevirtual 66) := by decide +kernel
theorem k16_6 : lkc 6 (kcode 16) = some (.ifCond .ne 5) := by decide +kernel
theorem k16_9 : lkc 9 (kcode 16) = some (.iconst 0) := by decide +kernel
theorem k16_10 : lkc 10 (kcode 16) = some (.ireturn) := by decide +kernel
theorem k16_11 : lkc 11 (kcode 16) = some (.iconst 0) := by decide +kernel
theorem k16_12 : lkc 12 (kcode 16) = some (.istore_n 3) := by decide +kernel
theorem k16_13 : lkc 13 (kcode 16) = some (.iload_n 3) := by decide +kernel
theorem k16_14 : lkc 14 (kcode 16) = some (.sipush 240) := by decide +kernel
theorem k16_17 : lkc 17 (kcode 16) = some (.if_icmp .ge 45) := by decide +kernel
theorem k16_20 : lkc 20 (kcode 16) = some (.aload_n 0) := by decide +kernel
theorem k16_21 : lkc 21 (kcode 16) = some (.getfield 15) := by decide +kernel
theorem k16_24 : lkc 24 (kcode 16) = some (.invokevirtual 35) := by decide +kernel
theorem k16_27 : lkc 27 (kcode 16) = some (.bipush 38) := by decide +kernel
theorem k16_29 : lkc 29 (kcode 16) = some (.if_icmp .ne 33) := by decide +kernel
theorem k16_32 : lkc 32 (kcode 16) = some (.aload_n 0) := by decide +kernel
theorem k16_33 : lkc 33 (kcode 16) = some (.getfield 15) := by decide +kernel
theorem k16_36 : lkc 36 (kcode 16) = some (.invokevirtual 63) := by decide +kernel
theorem k16_39 : lkc 39 (kcode 16) = some (.aload_n 0) := by decide +kernel
theorem k16_40 : lkc 40 (kcode 16) = some (.iload_n 1) := by decide +kernel
theorem k16_41 : lkc 41 (kcode 16) = some (.iconst 0) := by decide +kernel
theorem k16_42 : lkc 42 (kcode 16) = some (.invokevirtual 66) := by decide +kernel
theorem k16_45 : lkc 45 (kcode 16) = some (.ifCond .ne 5) := by decide +kernel
theorem k16_48 : lkc 48 (kcode 16) = some (.iconst 0) := by decide +kernel
theorem k16_49 : lkc 49 (kcode 16) = some (.ireturn) := by decide +kernel
theorem k16_50 : lkc 50 (kcode 16) = some (.aload_n 0) := by decide +kernel
theorem k16_51 : lkc 51 (kcode 16) = some (.bipush (-38)) := by decide +kernel
theorem k16_53 : lkc 53 (kcode 16) = some (.invokevirtual 56) := by decide +kernel
theorem k16_56 : lkc 56 (kcode 16) = some (.iinc 3 1) := by decide +kernel
theorem k16_59 : lkc 59 (kcode 16) = some (.goto (-46)) := by decide +kernel
theorem k16_62 : lkc 62 (kcode 16) = some (.iconst 1) := by decide +kernel
theorem k16_63 : lkc 63 (kcode 16) = some (.ireturn) := by decide +kernel
theorem k15_0 : lkc 0 (kcode 15) = some (.aload_n 0) := by decide +kernel
theorem k15_1 : lkc 1 (kcode 15) = some (.iload_n 1) := by decide +kernel
theorem k15_2 : lkc 2 (kcode 15) = some (.iload_n 2) := by decide +kernel
theorem k15_3 : lkc 3 (kcode 15) = some (.invokevirtual 60) := by decide +kernel
theorem k15_6 : lkc 6 (kcode 15) = some (.ifCond .ne 5) := by decide +kernel
theorem k15_9 : lkc 9 (kcode 15) = some (.iconst 0) := by decide +kernel
theorem k15_10 : lkc 10 (kcode 15) = some (.ireturn) := by decide +kernel
theorem k15_11 : lkc 11 (kcode 15) = some (.iconst 0) := by decide +kernel
theorem k15_12 : lkc 12 (kcode 15) = some (.istore_n 3) := by decide +kernel
theorem k15_13 : lkc 13 (kcode 15) = some (.iload_n 3) := by decide +kernel
theorem k15_14 : lkc 14 (kcode 15) = some (.sipush 240) := by decide +kernel
theorem k15_17 : lkc 17 (kcode 15) = some (.if_icmp .ge 45) := by decide +kernel
theorem k15_20 : lkc 20 (kcode 15) = some (.aload_n 0) := by decide +kernel
theorem k15_21 : lkc 21 (kcode 15) = some (.getfield 15) := by decide +kernel
theorem k15_24 : lkc 24 (kcode 15) = some (.invokevirtual 35) := by decide +kernel
theorem k15_27 : lkc 27 (kcode 15) = some (.bipush 124) := by decide +kernel
theorem k15_29 : lkc 29 (kcode 15) = some (.if_icmp .ne 33) := by decide +kernel
theorem k15_32 : lkc 32 (kcode 15) = some (.aload_n 0) := by decide +kernel
theorem k15_33 : lkc 33 (kcode 15) = some (.getfield 15) := by decide +kernel
theorem k15_36 : lkc 36 (kcode 15) = some (.invokevirtual 63) := by decide +kernel
theorem k15_39 : lkc 39 (kcode 15) = some (.aload_n 0) := by decide +kernel
theorem k15_40 : lkc 40 (kcode 15) = some (.iload_n 1) := by decide +kernel
theorem k15_41 : lkc 41 (kcode 15) = some (.iconst 0) := by decide +kernel
theorem k15_42 : lkc 42 (kcode 15) = some (.invokevirtual 60) := by decide +kernel
theorem k15_45 : lkc 45 (kcode 15) = some (.ifCond .ne 5) := by decide +kernel
theorem k15_48 : lkc 48 (kcode 15) = some (.iconst 0) := by decide +kernel
theorem k15_49 : lkc 49 (kcode 15) = some (.ireturn) := by decide +kernel
theorem k15_50 : lkc 50 (kcode 15) = some (.aload_n 0) := by decide +kernel
theorem k15_51 : lkc 51 (kcode 15) = some (.bipush (-124)) := by decide +kernel
theorem k15_53 : lkc 53 (kcode 15) = some (.invokevirtual 56) := by decide +kernel
theorem k15_56 : lkc 56 (kcode 15) = some (.iinc 3 1) := by decide +kernel
theorem k15_59 : lkc 59 (kcode 15) = some (.goto (-46)) := by decide +kernel
theorem k15_62 : lkc 62 (kcode 15) = some (.iconst 1) := by decide +kernel
theorem k15_63 : lkc 63 (kcode 15) = some (.ireturn) := by decide +kernel
theorem k14_0 : lkc 0 (kcode 14) = some (.aload_n 0) := by decide +kernel
theorem k14_1 : lkc 1 (kcode 14) = some (.getfield 15) := by decide +kernel
theorem k14_4 : lkc 4 (kcode 14) = some (.bipush 121) := by decide +kernel
theorem k14_6 : lkc 6 (kcode 14) = some (.invokevirtual 39) := by decide +kernel
theorem k14_9 : lkc 9 (kcode 14) = some (.ifCond .eq 15) := by decide +kernel
theorem k14_12 : lkc 12 (kcode 14) = some (.aload_n 0) := by decide +kernel
theorem k14_13 : lkc 13 (kcode 14) = some (.getfield 15) := by decide +kernel
theorem k14_16 : lkc 16 (kcode 14) = some (.bipush 58) := by decide +kernel
theorem k14_18 : lkc 18 (kcode 14) = some (.invokevirtual 39) := by decide +kernel
theorem k14_21 : lkc 21 (kcode 14) = some (.ifCond .ne 5) := by decide +kernel
theorem k14_24 : lkc 24 (kcode 14) = some (.iconst 0) := by decide +kernel
theorem k14_25 : lkc 25 (kcode 14) = some (.ireturn) := by decide +kernel
theorem k14_26 : lkc 26 (kcode 14) = some (.aload_n 0) := by decide +kernel
theorem k14_27 : lkc 27 (kcode 14) = some (.getfield 15) := by decide +kernel
theorem k14_30 : lkc 30 (kcode 14) = some (.invokevirtual 35) := by decide +kernel
theorem k14_33 : lkc 33 (kcode 14) = some (.istore_n 1) := by decide +kernel
theorem k14_34 : lkc 34 (kcode 14) = some (.iload_n 1) := by decide +kernel
theorem k14_35 : lkc 35 (kcode 14) = some (.bipush 33) := by decide +kernel
theorem k14_37 : lkc 37 (kcode 14) = some (.if_icmp .eq 13) := by decide +kernel
theorem k14_40 : lkc 40 (kcode 14) = some (.iload_n 1) := by decide +kernel
theorem k14_41 : lkc 41 (kcode 14) = some (.bipush 40) := by decide +kernel
theorem k14_43 : lkc 43 (kcode 14) = some (.if_icmp .eq 7) := by decide +kernel
theorem k14_46 : lkc 46 (kcode 14) = some (.iconst 1) := by decide +kernel
theorem k14_47 : lkc 47 (kcode 14) = some (.goto 4) := by decide +kernel
theorem k14_50 : lkc 50 (kcode 14) = some (.iconst 0) := by decide +kernel
theorem k14_51 : lkc 51 (kcode 14) = some (.istore_n 2) := by decide +kernel
theorem k14_52 : lkc 52 (kcode 14) = some (.iload_n 2) := by decide +kernel
theorem k14_53 : lkc 53 (kcode 14) = some (.ifCond .eq 13) := by decide +kernel
theorem k14_56 : lkc 56 (kcode 14) = some (.aload_n 0) := by decide +kernel
theorem k14_57 : lkc 57 (kcode 14) = some (.iconst 0) := by decide +kernel
theorem k14_58 : lkc 58 (kcode 14) = some (.invokevirtual 46) := by decide +kernel
theorem k14_61 : lkc 61 (kcode 14) = some (.ifCond .ne 5) := by decide +kernel
theorem k14_64 : lkc 64 (kcode 14) = some (.iconst 0) := by decide +kernel
theorem k14_65 : lkc 65 (kcode 14) = some (.ireturn) := by decide +kernel
theorem k14_66 : lkc 66 (kcode 14) = some (.iload_n 2) := by decide +kernel
theorem k14_67 : lkc 67 (kcode 14) = some (.ifCond .eq 16) := by decide +kernel
theorem k14_70 : lkc 70 (kcode 14) = some (.aload_n 0) := by decide +kernel
theorem k14_71 : lkc 71 (kcode 14) = some (.getfield 15) := by decide +kernel
theorem k14_74 : lkc 74 (kcode 14) = some (.invokevirtual 35) := by decide +kernel
theorem k14_77 : lkc 77 (kcode 14) = some (.invokestatic 49) := by decide +kernel
theorem k14_80 : lkc 80 (kcode 14) = some (.ifCond .eq 42) := by decide +kernel
theorem k14_83 : lkc 83 (kcode 14) = some (.aload_n 0) := by decide +kernel
theorem k14_84 : lkc 84 (kcode 14) = some (.iconst 0) := by decide +kernel
theorem k14_85 : lkc 85 (kcode 14) = some (.iload_n 2) := by decide +kernel
theorem k14_86 : lkc 86 (kcode 14) = some (.invokevirtual 52) := by decide +kernel
theorem k14_89 : lkc 89 (kcode 14) = some (.ifCond .eq 15) := by decide +kernel
theorem k14_92 : lkc 92 (kcode 14) = some (.aload_n 0) := by decide +kernel
theorem k14_93 : lkc 93 (kcode 14) = some (.getfield 15) := by decide +kernel
theorem k14_96 : lkc 96 (kcode 14) = some (.bipush 63) := by decide +kernel
theorem k14_98 : lkc 98 (kcode 14) = some (.invokevirtual 39) := by decide +kernel
theorem k14_101 : lkc 101 (kcode 14) = some (.ifCond .ne 5) := by decide +kernel
theorem k14_104 : lkc 104 (kcode 14) = some (.iconst 0) := by decide +kernel
theorem k14_105 : lkc 105 (kcode 14) = some (.ireturn) := by decide +kernel
theorem k14_106 : lkc 106 (kcode 14) = some (.aload_n 0) := by decide +kernel
theorem k14_107 : lkc 107 (kcode 14) = some (.bipush (-63)) := by decide +kernel
theorem k14_109 : lkc 109 (kcode 14) = some (.invokevirtual 56) := by decide +kernel
theorem k14_112 : lkc 112 (kcode 14) = some (.aload_n 0) := by decide +kernel
theorem k14_113 : lkc 113 (kcode 14) = some (.iconst 0) := by decide +kernel
theorem k14_114 : lkc 114 (kcode 14) = some (.invokevirtual 46) := by decide +kernel
theorem k14_117 : lkc 117 (kcode 14) = some (.ifCond .ne 5) := by decide +kernel
theorem k14_120 : lkc 120 (kcode 14) = some (.iconst 0) := by decide +kernel
theorem k14_121 : lkc 121 (kcode 14) = some (.ireturn) := by decide +kernel
theorem k14_122 : lkc 122 (kcode 14) = some (.aload_n 0) := by decide +kernel
theorem k14_123 : lkc 123 (kcode 14) = some (.bipush (-59)) := by decide +kernel
theorem k14_125 : lkc 125 (kcode 14) = some (.invokevirtual 56) := by decide +kernel
theorem k14_128 : lkc 128 (kcode 14) = some (.iconst 1) := by decide +kernel
theorem k14_129 : lkc 129 (kcode 14) = some (.ireturn) := by decide +kernel
theorem k13_0 : lkc 0 (kcode 13) = some (.aload_n 0) := by decide +kernel
theorem k13_1 : lkc 1 (kcode 13) = some (.iconst 0) := by decide +kernel
theorem k13_2 : lkc 2 (kcode 13) = some (.putfield 19) := by decide +kernel
theorem k13_5 : lkc 5 (kcode 13) = some (.aload_n 0) := by decide +kernel
theorem k13_6 : lkc 6 (kcode 13) = some (.getfield 15) := by decide +kernel
theorem k13_9 : lkc 9 (kcode 13) = some (.invokevirtual 23) := by decide +kernel
theorem k13_12 : lkc 12 (kcode 13) = some (.iconst 0) := by decide +kernel
theorem k13_13 : lkc 13 (kcode 13) = some (.istore_n 1) := by decide +kernel
theorem k13_14 : lkc 14 (kcode 13) = some (.iload_n 1) := by decide +kernel
theorem k13_15 : lkc 15 (kcode 13) = some (.sipush 240) := by decide +kernel
theorem k13_18 : lkc 18 (kcode 13) = some (.if_icmp .gt 57) := by decide +kernel
theorem k13_21 : lkc 21 (kcode 13) = some (.aload_n 0) := by decide +kernel
theorem k13_22 : lkc 22 (kcode 13) = some (.invokevirtual 28) := by decide +kernel
theorem k13_25 : lkc 25 (kcode 13) = some (.ifCond .ne 11) := by decide +kernel
theorem k13_28 : lkc 28 (kcode 13) = some (.aload_n 0) := by decide +kernel
theorem k13_29 : lkc 29 (kcode 13) = some (.getfield 15) := by decide +kernel
theorem k13_32 : lkc 32 (kcode 13) = some (.getfield 32) := by decide +kernel
theorem k13_35 : lkc 35 (kcode 13) = some (.ireturn) := by decide +kernel
theorem k13_36 : lkc 36 (kcode 13) = some (.aload_n 0) := by decide +kernel
theorem k13_37 : lkc 37 (kcode 13) = some (.getfield 15) := by decide +kernel
theorem k13_40 : lkc 40 (kcode 13) = some (.invokevirtual 35) := by decide +kernel
theorem k13_43 : lkc 43 (kcode 13) = some (.iconst (-1)) := by decide +kernel
theorem k13_44 : lkc 44 (kcode 13) = some (.if_icmp .ne 5) := by decide +kernel
theorem k13_47 : lkc 47 (kcode 13) = some (.iconst (-1)) := by decide +kernel
theorem k13_48 : lkc 48 (kcode 13) = some (.ireturn) := by decide +kernel
theorem k13_49 : lkc 49 (kcode 13) = some (.aload_n 0) := by decide +kernel
theorem k13_50 : lkc 50 (kcode 13) = some (.getfield 15) := by decide +kernel
theorem k13_53 : lkc 53 (kcode 13) = some (.bipush 59) := by decide +kernel
theorem k13_55 : lkc 55 (kcode 13) = some (.invokevirtual 39) := by decide +kernel
theorem k13_58 : lkc 58 (kcode 13) = some (.ifCond .ne 11) := by decide +kernel
theorem k13_61 : lkc 61 (kcode 13) = some (.aload_n 0) := by decide +kernel
theorem k13_62 : lkc 62 (kcode 13) = some (.getfield 15) := by decide +kernel
theorem k13_65 : lkc 65 (kcode 13) = some (.getfield 32) := by decide +kernel
theorem k13_68 : lkc 68 (kcode 13) = some (.ireturn) := by decide +kernel
theorem k13_69 : lkc 69 (kcode 13) = some (.iinc 1 1) := by decide +kernel
theorem k13_72 : lkc 72 (kcode 13) = some (.goto (-58)) := by decide +kernel
theorem k13_75 : lkc 75 (kcode 13) = some (.aload_n 0) := by decide +kernel
theorem k13_76 : lkc 76 (kcode 13) = some (.getfield 15) := by decide +kernel
theorem k13_79 : lkc 79 (kcode 13) = some (.getfield 43) := by decide +kernel
theorem k13_82 : lkc 82 (kcode 13) = some (.ireturn) := by decide +kernel
theorem st_truthL {N : Nat} {t : Nat → Int32} {h p d : Nat} {s : Int32} : stI N t h p s (.truthL d) = if s = 38 then .inl ([.unit d, .truthL d], p + 1) else .inl ([], p) := rfl
theorem st_condL {N : Nat} {t : Nat → Int32} {h p d : Nat} {s : Int32} : stI N t h p s (.condL d) = if s = 124 then .inl ([.truth d, .condL d], p + 1) else .inl ([], p) := rfl
theorem c_isRelation {m : xM} {s : Int32} : fC 23 [.int s] m (fun rv m' => ((isRel s ∧ rv = some (.int 1)) ∨ (¬ isRel s ∧ rv = some (.int 0))) ∧ m' = m) := by
  refine fC_of (by decide) (fun d n P H => ?_)
  have yes : isRel s → xF 23 (xw d) P n 18 [(0, .int s)] [] m → ∃ rv m', P rv m' ∧ ((isRel s ∧ rv = some (.int 1)) ∨ (¬ isRel s ∧ rv = some (.int 0))) ∧ m' = m := by
    intro hl H
    have H := f_iconst H k23_18 (v := 1) (by decide)
    have H := f_goto H k23_19 (t := 23) (by decide)
    have H := f_iret H k23_23
    exact ⟨_, _, H, Or.inl ⟨hl, rfl⟩, rfl⟩
  have H := f_iload_n H k23_0 (x := s) rfl
  have H := f_bipush H k23_1 (v := 61) (by decide)
  rcases f_icmp_eq H k23_3 (t := 18) (by decide) with ⟨c, H⟩ | ⟨c1, H⟩
  · exact yes (Or.inl c) H
  have H := f_iload_n H k23_6 (x := s) rfl
  have H := f_bipush H k23_7 (v := 60) (by decide)
  rcases f_icmp_eq H k23_9 (t := 18) (by decide) with ⟨c, H⟩ | ⟨c2, H⟩
  · exact yes (Or.inr (Or.inl c)) H
  have H := f_iload_n H k23_12 (x := s) rfl
  have H := f_bipush H k23_13 (v := 62) (by decide)
  rcases f_icmp_ne H k23_15 (t := 22) (by decide) with ⟨c3, H⟩ | ⟨c, H⟩
  · have H := f_iconst H k23_22 (v := 0) (by decide)
    have H := f_iret H k23_23
    exact ⟨_, _, H, Or.inr ⟨fun z => by rcases z with z | z | z <;> contradiction, rfl⟩, rfl⟩
  · exact yes (Or.inr (Or.inr c)) H
set_option maxHeartbeats 4000000 in
theorem c_readTruth {m : xM} {N h dp : Nat} {t : Nat → Int32} {b : Int32} {F G : It} (hm : rdS m N h t) (hdp : dp ≤ 6) (hG : ∀ h, stP N t G h = .inl ([F, .truthL dp], h)) (hF : ∀ m h, rdS m N h t → fC 17 [.ref 45, .int (nI dp), .int b] m (rdO N t h [F] m)) (hA : ∀ m h, rdS m N h t → fC 17 [.ref 45, .int (nI dp), .int 0] m (rdO N t h [.unit dp] m)) : fC 16 [.ref 45, .int (nI dp), .int b] m (rdO N t h [G] m) := by
  refine fC_of (by decide) (fun d n P H => ?_)
  have hN := hm.1.2.2.1
  have key : ∀ n r h2 m2, rdS m2 N h2 t → r ≤ h2 → xF 16 (xw d) P (n + 1) 13 [(3, .int (nI r)), (0, .ref 45), (1, .int (nI dp)), (2, .int b)] [] m2 → ∃ rv m', P rv m' ∧ rdO N t h2 [.truthL dp] m2 rv m' := by
    intro n
    induction n with
    | zero => exact fun r h2 m2 _ _ H => (xF_0 (f1_iload_n H k16_13 (x := nI r) rfl)).elim
    | succ n ih =>
      intro r h2 m2 hm2 hr H
      have hh := hm2.1.2.2.2.1
      have hp : sk N t h2 ≤ N := sk_le hh
      have hge : h2 ≤ sk N t h2 := sk_ge
      have e5 := hm2.2.2.1
      have H := f1_iload_n H k16_13 (x := nI r) rfl
      have H := f_sipush H k16_14 (v := nI 240) (by decide)
      rcases f_icmp_ge H k16_17 (t := 62) (by decide) with ⟨c, H⟩ | ⟨c, H⟩
      · rw [nI_lt2 (by omega) (by omega)] at c
        have H := f_iconst H k16_62 (v := 1) (by decide)
        have H := f_iret H k16_63
        have e : h2 = N := by omega
        refine ⟨_, _, H, Or.inl ⟨h2, rfl, hm2, Nat.le_refl _, Rok_go (is := []) ?_ Rok_nil⟩⟩
        unfold stP
        rw [st_truthL, show sk N t h2 = h2 from sk_no (fun z => by omega), show atv N t h2 = -1 by rw [atv, if_neg (by omega)], if_neg (by decide)]
      · have H := f_aload_n H k16_20 (x := 45) rfl
        have H := f_getfield H k16_21 (ci := 2) (f := 0) (v := .ref 1) (by decide +kernel) (show rvl (m2.2.2 45 0) = _ by rw [e5]; rfl)
        obtain ⟨rv, m1, ⟨rfl, e9⟩, H⟩ := f_inv H k16_24 (by decide +kernel) (as := []) (b := 1) (r := []) (by rfl) (c_ahead hm2.1)
        rw [hm2.2.1] at H e9
        have hm1 : rdS m1 N (sk N t h2) t := by rw [e9]; exact rdS_h hm2 hp
        clear e9
        have hst : ∀ i, stP N t i h2 = stI N t h2 (sk N t h2) (atv N t (sk N t h2)) i := fun i => rfl
        have e51 := hm1.2.2.1
        have hlt : atv N t (sk N t h2) ≠ -1 → sk N t h2 < N := fun z => by
          by_cases h9 : sk N t h2 < N
          · exact h9
          · exact absurd (by rw [atv, if_neg h9]) z
        generalize sk N t h2 = p at *
        generalize atv N t p = s at *
        have H := f_bipush H k16_27 (v := 38) (by decide)
        rcases f_icmp_ne H k16_29 (t := 62) (by decide) with ⟨c1, H⟩ | ⟨hs, H⟩
        · have H := f_iconst H k16_62 (v := 1) (by decide)
          have H := f_iret H k16_63
          exact ⟨_, _, H, Or.inl ⟨p, rfl, hm1, hge, Rok_go (is := []) (by rw [hst, st_truthL, if_neg c1]) Rok_nil⟩⟩
        · have hpN : p < N := hlt (fun z => by rw [z] at hs; exact absurd hs (by decide))
          have hstS : stP N t (.truthL dp) h2 = .inl ([.unit dp, .truthL dp], p + 1) := by rw [hst, st_truthL, if_pos hs]
          have H := f_aload_n H k16_32 (x := 45) rfl
          have H := f_getfield H k16_33 (ci := 2) (f := 0) (v := .ref 1) (by decide +kernel) (show rvl (m1.2.2 45 0) = _ by rw [e51]; rfl)
          obtain ⟨rv, m3, ⟨rfl, e9⟩, H⟩ := f_inv H k16_36 (by decide +kernel) (as := []) (b := 1) (r := []) (by rfl) (c_step hm1.1)
          have hm3 : rdS m3 N (p + 1) t := by rw [e9]; exact rdS_h hm1 (by omega)
          clear e9
          have H := f_aload_n H k16_39 (x := 45) rfl
          have H := f_iload_n H k16_40 (x := nI dp) rfl
          have H := f_iconst H k16_41 (v := 0) (by decide)
          obtain ⟨rv, m4, ho, H⟩ := f_inv H k16_42 (by decide +kernel) (as := [.int (nI dp), .int 0]) (b := 45) (r := []) (by rfl) (hA m3 (p + 1) hm3)
          rcases ho with ⟨h3, rfl, hm4, hle, hok⟩ | ⟨w, h3, rfl, hm4, hw, hno⟩
          · rcases f_if_ne H k16_45 (t := 50) (by decide) with ⟨-, H⟩ | ⟨c, H⟩
            · have H := f_aload_n H k16_50 (x := 45) rfl
              have H := f_bipush H k16_51 (v := -38) (by decide)
              obtain ⟨rv, m5, ⟨rfl, hm5, -⟩, H⟩ := f_inv H k16_53 (by decide +kernel) (as := [.int (-38)]) (b := 45) (r := []) (by rfl) (c_emit hm4)
              have H := f_iinc H k16_56 (x := nI r) rfl (l2 := [(3, .int (nI r + nI 1)), (0, .ref 45), (1, .int (nI dp)), (2, .int b)]) rfl
              have H := f_goto H k16_59 (t := 13) (by decide)
              rw [r_ad] at H
              obtain ⟨rv, m6, hP, ho⟩ := ih (r + 1) h3 m5 hm5 (by omega) H
              refine ⟨rv, m6, hP, ?_⟩
              rcases ho with ⟨h4, e1, q4, q5, q6⟩ | ⟨w, h4, e1, q4, q5, q6⟩
              · exact Or.inl ⟨h4, e1, q4, by omega, Rok_go hstS (Rok_app (is := [.unit dp]) (js := [.truthL dp]) hok q6)⟩
              · exact Or.inr ⟨w, h4, e1, q4, q5, Rno_go hstS (Rno_app2 (is := [.unit dp]) (js := [.truthL dp]) hok q6)⟩
            · exact absurd c (by decide)
          · rcases f_if_ne H k16_45 (t := 50) (by decide) with ⟨c, H⟩ | ⟨-, H⟩
            · exact absurd rfl c
            · have H := f_iconst H k16_48 (v := 0) (by decide)
              have H := f_iret H k16_49
              exact ⟨_, _, H, Or.inr ⟨w, h3, rfl, hm4, hw, Rno_go hstS (Rno_app1 (js := [.truthL dp]) hno)⟩⟩
  have H := f_aload_n H k16_0 (x := 45) rfl
  have H := f_iload_n H k16_1 (x := nI dp) rfl
  have H := f_iload_n H k16_2 (x := b) rfl
  obtain ⟨rv, m1, ho, H⟩ := f_inv H k16_3 (by decide +kernel) (as := [.int (nI dp), .int b]) (b := 45) (r := []) (by rfl) (hF m h hm)
  rcases ho with ⟨h3, rfl, hm4, hle, hok⟩ | ⟨w, h3, rfl, hm4, hw, hno⟩
  · rcases f_if_ne H k16_6 (t := 11) (by decide) with ⟨-, H⟩ | ⟨c, H⟩
    · have H := f_iconst H k16_11 (v := nI 0) (by decide)
      have H := f_istore_n H k16_12 (l2 := [(3, .int (nI 0)), (0, .ref 45), (1, .int (nI dp)), (2, .int b)]) rfl
      obtain ⟨rv, m6, hP, ho⟩ := key n 0 h3 m1 hm4 (Nat.zero_le _) (f_up H (Nat.le_succ _))
      refine ⟨rv, m6, hP, ?_⟩
      rcases ho with ⟨h4, e1, q4, q5, q6⟩ | ⟨w, h4, e1, q4, q5, q6⟩
      · exact Or.inl ⟨h4, e1, q4, by omega, Rok_go (hG h) (Rok_app (is := [F]) (js := [.truthL dp]) hok q6)⟩
      · exact Or.inr ⟨w, h4, e1, q4, q5, Rno_go (hG h) (Rno_app2 (is := [F]) (js := [.truthL dp]) hok q6)⟩
    · exact absurd c (by decide)
  · rcases f_if_ne H k16_6 (t := 11) (by decide) with ⟨c, H⟩ | ⟨-, H⟩
    · exact absurd rfl c
    · have H := f_iconst H k16_9 (v := 0) (by decide)
      have H := f_iret H k16_10
      exact ⟨_, _, H, Or.inr ⟨w, h3, rfl, hm4, hw, Rno_go (hG h) (Rno_app1 (js := [.truthL dp]) hno)⟩⟩
set_option maxHeartbeats 4000000 in
theorem c_readCondition {m : xM} {N h dp : Nat} {t : Nat → Int32} {b : Int32} {F G : It} (hm : rdS m N h t) (hdp : dp ≤ 6) (hG : ∀ h, stP N t G h = .inl ([F, .condL dp], h)) (hF : ∀ m h, rdS m N h t → fC 16 [.ref 45, .int (nI dp), .int b] m (rdO N t h [F] m)) (hA : ∀ m h, rdS m N h t → fC 16 [.ref 45, .int (nI dp), .int 0] m (rdO N t h [.truth dp] m)) : fC 15 [.ref 45, .int (nI dp), .int b] m (rdO N t h [G] m) := by
  refine fC_of (by decide) (fun d n P H => ?_)
  have hN := hm.1.2.2.1
  have key : ∀ n r h2 m2, rdS m2 N h2 t → r ≤ h2 → xF 15 (xw d) P (n + 1) 13 [(3, .int (nI r)), (0, .ref 45), (1, .int (nI dp)), (2, .int b)] [] m2 → ∃ rv m', P rv m' ∧ rdO N t h2 [.condL dp] m2 rv m' := by
    intro n
    induction n with
    | zero => exact fun r h2 m2 _ _ H => (xF_0 (f1_iload_n H k15_13 (x := nI r) rfl)).elim
    | succ n ih =>
      intro r h2 m2 hm2 hr H
      have hh := hm2.1.2.2.2.1
      have hp : sk N t h2 ≤ N := sk_le hh
      have hge : h2 ≤ sk N t h2 := sk_ge
      have e5 := hm2.2.2.1
      have H := f1_iload_n H k15_13 (x := nI r) rfl
      have H := f_sipush H k15_14 (v := nI 240) (by decide)
      rcases f_icmp_ge H k15_17 (t := 62) (by decide) with ⟨c, H⟩ | ⟨c, H⟩
      · rw [nI_lt2 (by omega) (by omega)] at c
        have H := f_iconst H k15_62 (v := 1) (by decide)
        have H := f_iret H k15_63
        have e : h2 = N := by omega
        refine ⟨_, _, H, Or.inl ⟨h2, rfl, hm2, Nat.le_refl _, Rok_go (is := []) ?_ Rok_nil⟩⟩
        unfold stP
        rw [st_condL, show sk N t h2 = h2 from sk_no (fun z => by omega), show atv N t h2 = -1 by rw [atv, if_neg (by omega)], if_neg (by decide)]
      · have H := f_aload_n H k15_20 (x := 45) rfl
        have H := f_getfield H k15_21 (ci := 2) (f := 0) (v := .ref 1) (by decide +kernel) (show rvl (m2.2.2 45 0) = _ by rw [e5]; rfl)
        obtain ⟨rv, m1, ⟨rfl, e9⟩, H⟩ := f_inv H k15_24 (by decide +kernel) (as := []) (b := 1) (r := []) (by rfl) (c_ahead hm2.1)
        rw [hm2.2.1] at H e9
        have hm1 : rdS m1 N (sk N t h2) t := by rw [e9]; exact rdS_h hm2 hp
        clear e9
        have hst : ∀ i, stP N t i h2 = stI N t h2 (sk N t h2) (atv N t (sk N t h2)) i := fun i => rfl
        have e51 := hm1.2.2.1
        have hlt : atv N t (sk N t h2) ≠ -1 → sk N t h2 < N := fun z => by
          by_cases h9 : sk N t h2 < N
          · exact h9
          · exact absurd (by rw [atv, if_neg h9]) z
        generalize sk N t h2 = p at *
        generalize atv N t p = s at *
        have H := f_bipush H k15_27 (v := 124) (by decide)
        rcases f_icmp_ne H k15_29 (t := 62) (by decide) with ⟨c1, H⟩ | ⟨hs, H⟩
        · have H := f_iconst H k15_62 (v := 1) (by decide)
          have H := f_iret H k15_63
          exact ⟨_, _, H, Or.inl ⟨p, rfl, hm1, hge, Rok_go (is := []) (by rw [hst, st_condL, if_neg c1]) Rok_nil⟩⟩
        · have hpN : p < N := hlt (fun z => by rw [z] at hs; exact absurd hs (by decide))
          have hstS : stP N t (.condL dp) h2 = .inl ([.truth dp, .condL dp], p + 1) := by rw [hst, st_condL, if_pos hs]
          have H := f_aload_n H k15_32 (x := 45) rfl
          have H := f_getfield H k15_33 (ci := 2) (f := 0) (v := .ref 1) (by decide +kernel) (show rvl (m1.2.2 45 0) = _ by rw [e51]; rfl)
          obtain ⟨rv, m3, ⟨rfl, e9⟩, H⟩ := f_inv H k15_36 (by decide +kernel) (as := []) (b := 1) (r := []) (by rfl) (c_step hm1.1)
          have hm3 : rdS m3 N (p + 1) t := by rw [e9]; exact rdS_h hm1 (by omega)
          clear e9
          have H := f_aload_n H k15_39 (x := 45) rfl
          have H := f_iload_n H k15_40 (x := nI dp) rfl
          have H := f_iconst H k15_41 (v := 0) (by decide)
          obtain ⟨rv, m4, ho, H⟩ := f_inv H k15_42 (by decide +kernel) (as := [.int (nI dp), .int 0]) (b := 45) (r := []) (by rfl) (hA m3 (p + 1) hm3)
          rcases ho with ⟨h3, rfl, hm4, hle, hok⟩ | ⟨w, h3, rfl, hm4, hw, hno⟩
          · rcases f_if_ne H k15_45 (t := 50) (by decide) with ⟨-, H⟩ | ⟨c, H⟩
            · have H := f_aload_n H k15_50 (x := 45) rfl
              have H := f_bipush H k15_51 (v := -124) (by decide)
              obtain ⟨rv, m5, ⟨rfl, hm5, -⟩, H⟩ := f_inv H k15_53 (by decide +kernel) (as := [.int (-124)]) (b := 45) (r := []) (by rfl) (c_emit hm4)
              have H := f_iinc H k15_56 (x := nI r) rfl (l2 := [(3, .int (nI r + nI 1)), (0, .ref 45), (1, .int (nI dp)), (2, .int b)]) rfl
              have H := f_goto H k15_59 (t := 13) (by decide)
              rw [r_ad] at H
              obtain ⟨rv, m6, hP, ho⟩ := ih (r + 1) h3 m5 hm5 (by omega) H
              refine ⟨rv, m6, hP, ?_⟩
              rcases ho with ⟨h4, e1, q4, q5, q6⟩ | ⟨w, h4, e1, q4, q5, q6⟩
              · exact Or.inl ⟨h4, e1, q4, by omega, Rok_go hstS (Rok_app (is := [.truth dp]) (js := [.condL dp]) hok q6)⟩
              · exact Or.inr ⟨w, h4, e1, q4, q5, Rno_go hstS (Rno_app2 (is := [.truth dp]) (js := [.condL dp]) hok q6)⟩
            · exact absurd c (by decide)
          · rcases f_if_ne H k15_45 (t := 50) (by decide) with ⟨c, H⟩ | ⟨-, H⟩
            · exact absurd rfl c
            · have H := f_iconst H k15_48 (v := 0) (by decide)
              have H := f_iret H k15_49
              exact ⟨_, _, H, Or.inr ⟨w, h3, rfl, hm4, hw, Rno_go hstS (Rno_app1 (js := [.condL dp]) hno)⟩⟩
  have H := f_aload_n H k15_0 (x := 45) rfl
  have H := f_iload_n H k15_1 (x := nI dp) rfl
  have H := f_iload_n H k15_2 (x := b) rfl
  obtain ⟨rv, m1, ho, H⟩ := f_inv H k15_3 (by decide +kernel) (as := [.int (nI dp), .int b]) (b := 45) (r := []) (by rfl) (hF m h hm)
  rcases ho with ⟨h3, rfl, hm4, hle, hok⟩ | ⟨w, h3, rfl, hm4, hw, hno⟩
  · rcases f_if_ne H k15_6 (t := 11) (by decide) with ⟨-, H⟩ | ⟨c, H⟩
    · have H := f_iconst H k15_11 (v := nI 0) (by decide)
      have H := f_istore_n H k15_12 (l2 := [(3, .int (nI 0)), (0, .ref 45), (1, .int (nI dp)), (2, .int b)]) rfl
      obtain ⟨rv, m6, hP, ho⟩ := key n 0 h3 m1 hm4 (Nat.zero_le _) (f_up H (Nat.le_succ _))
      refine ⟨rv, m6, hP, ?_⟩
      rcases ho with ⟨h4, e1, q4, q5, q6⟩ | ⟨w, h4, e1, q4, q5, q6⟩
      · exact Or.inl ⟨h4, e1, q4, by omega, Rok_go (hG h) (Rok_app (is := [F]) (js := [.condL dp]) hok q6)⟩
      · exact Or.inr ⟨w, h4, e1, q4, q5, Rno_go (hG h) (Rno_app2 (is := [F]) (js := [.condL dp]) hok q6)⟩
    · exact absurd c (by decide)
  · rcases f_if_ne H k15_6 (t := 11) (by decide) with ⟨c, H⟩ | ⟨-, H⟩
    · exact absurd rfl c
    · have H := f_iconst H k15_9 (v := 0) (by decide)
      have H := f_iret H k15_10
      exact ⟨_, _, H, Or.inr ⟨w, h3, rfl, hm4, hw, Rno_go (hG h) (Rno_app1 (js := [.condL dp]) hno)⟩⟩
theorem st_unit {N : Nat} {t : Nat → Int32} {h p d : Nat} {s : Int32} : stI N t h p s (.unit d) = if s = 33 then (if d < 6 then .inl ([.unit (d + 1)], p + 1) else .inr p) else if s = 40 then (if d < 6 then .inl ([.cond (d + 1), .tok 41], p + 1) else .inr p) else .inl ([.sum d, .rel d], p) := rfl
theorem st_rel {N : Nat} {t : Nat → Int32} {h p d : Nat} {s : Int32} : stI N t h p s (.rel d) = if isRel s then .inl ([.sum d], p + 1) else .inr p := rfl
theorem at_lt {N p : Nat} {t : Nat → Int32} (h : atv N t p ≠ -1) : p < N := by
  by_cases h9 : p < N
  · exact h9
  · exact absurd (by rw [atv, if_neg h9]) h
set_option maxHeartbeats 4000000 in
theorem c_readNested {m : xM} {N p dp : Nat} {t : Nat → Int32} {s : Int32} (hm : rdS m N p t) (hdp : dp ≤ 6) (hsk : sk N t p = p) (hat : atv N t p = s) (hs : s = 33 ∨ s = 40) (hC : dp < 6 → ∀ m h, rdS m N h t → fC 15 [.ref 45, .int (nI (dp + 1)), .int 0] m (rdO N t h [.cond (dp + 1)] m)) (hU : dp < 6 → ∀ m h, rdS m N h t → fC 17 [.ref 45, .int (nI (dp + 1)), .int 0] m (rdO N t h [.unit (dp + 1)] m)) : fC 18 [.ref 45, .int (nI dp), .int s] m (rdO N t p [.unit dp] m) := by
  refine fC_of (by decide) (fun d n P H => ?_)
  have hN := hm.1.2.2.1
  have e5 := hm.2.2.1
  have hpN : p < N := at_lt (t := t) (fun z => by rw [hat] at z; rw [z] at hs; exact absurd hs (by decide))
  have hst : stP N t (.unit dp) p = stI N t p p s (.unit dp) := by unfold stP; rw [hsk, hat]
  have H := f_iload_n H k18_0 (x := nI dp) rfl
  have H := f_bipush H k18_1 (v := nI 6) (by decide)
  rcases f_icmp_lt H k18_3 (t := 14) (by decide) with ⟨c, H⟩ | ⟨c, H⟩
  · rw [Int32.lt_iff_toInt_lt, nI_toInt (by omega), nI_toInt (by omega)] at c
    have hd6 : dp < 6 := by omega
    have H := f_aload_n H k18_14 (x := 45) rfl
    have H := f_getfield H k18_15 (ci := 2) (f := 0) (v := .ref 1) (by decide +kernel) (show rvl (m.2.2 45 0) = _ by rw [e5]; rfl)
    obtain ⟨rv, m1, ⟨rfl, e9⟩, H⟩ := f_inv H k18_18 (by decide +kernel) (as := []) (b := 1) (r := []) (by rfl) (c_step hm.1)
    have hm1 : rdS m1 N (p + 1) t := by rw [e9]; exact rdS_h hm (by omega)
    clear e9
    have H := f_iload_n H k18_21 (x := s) rfl
    have H := f_bipush H k18_22 (v := 40) (by decide)
    rcases f_icmp_ne H k18_24 (t := 56) (by decide) with ⟨c4, H⟩ | ⟨c4, H⟩
    · have hs3 : s = 33 := hs.resolve_right c4
      have hstS : stP N t (.unit dp) p = .inl ([.unit (dp + 1)], p + 1) := by rw [hst, st_unit, if_pos hs3, if_pos hd6]
      have H := f_aload_n H k18_56 (x := 45) rfl
      have H := f_iload_n H k18_57 (x := nI dp) rfl
      have H := f_iconst H k18_58 (v := nI 1) (by decide)
      have H := f_iadd H k18_59
      rw [r_ad] at H
      have H := f_iconst H k18_60 (v := 0) (by decide)
      obtain ⟨rv, m4, ho, H⟩ := f_inv H k18_61 (by decide +kernel) (as := [.int (nI (dp + 1)), .int 0]) (b := 45) (r := []) (by rfl) (hU hd6 m1 (p + 1) hm1)
      rcases ho with ⟨h3, rfl, hm4, hle, hok⟩ | ⟨w, h3, rfl, hm4, hw, hno⟩
      · rcases f_if_ne H k18_64 (t := 69) (by decide) with ⟨-, H⟩ | ⟨c, H⟩
        · have H := f_aload_n H k18_69 (x := 45) rfl
          have H := f_bipush H k18_70 (v := -33) (by decide)
          obtain ⟨rv, m5, ⟨rfl, hm5, -⟩, H⟩ := f_inv H k18_72 (by decide +kernel) (as := [.int (-33)]) (b := 45) (r := []) (by rfl) (c_emit hm4)
          have H := f_iconst H k18_75 (v := 1) (by decide)
          have H := f_iret H k18_76
          exact ⟨_, _, H, Or.inl ⟨h3, rfl, hm5, by omega, Rok_go hstS hok⟩⟩
        · exact absurd c (by decide)
      · rcases f_if_ne H k18_64 (t := 69) (by decide) with ⟨c, H⟩ | ⟨-, H⟩
        · exact absurd rfl c
        · have H := f_iconst H k18_67 (v := 0) (by decide)
          have H := f_iret H k18_68
          exact ⟨_, _, H, Or.inr ⟨w, h3, rfl, hm4, hw, Rno_go hstS hno⟩⟩
    · have hstS : stP N t (.unit dp) p = .inl ([.cond (dp + 1), .tok 41], p + 1) := by rw [hst, st_unit, if_neg (by rw [c4]; decide), if_pos c4, if_pos hd6]
      have H := f_aload_n H k18_27 (x := 45) rfl
      have H := f_iload_n H k18_28 (x := nI dp) rfl
      have H := f_iconst H k18_29 (v := nI 1) (by decide)
      have H := f_iadd H k18_30
      rw [r_ad] at H
      have H := f_iconst H k18_31 (v := 0) (by decide)
      obtain ⟨rv, m3, ho, H⟩ := f_inv H k18_32 (by decide +kernel) (as := [.int (nI (dp + 1)), .int 0]) (b := 45) (r := []) (by rfl) (hC hd6 m1 (p + 1) hm1)
      rcases ho with ⟨h2, rfl, hm3, hle, hok⟩ | ⟨w, h2, rfl, hm3, hw, hno⟩
      · rcases f_if_eq H k18_35 (t := 54) (by decide) with ⟨c, H⟩ | ⟨-, H⟩
        · exact absurd c (by decide)
        have e53 := hm3.2.2.1
        have H := f_aload_n H k18_38 (x := 45) rfl
        have H := f_getfield H k18_39 (ci := 2) (f := 0) (v := .ref 1) (by decide +kernel) (show rvl (m3.2.2 45 0) = _ by rw [e53]; rfl)
        have H := f_bipush H k18_42 (v := 41) (by decide)
        obtain ⟨rv, m4, ht, H⟩ := f_inv H k18_44 (by decide +kernel) (as := [.int 41]) (b := 1) (r := []) (by rfl) (c_take (s := 41) hm3.1 (by decide))
        rw [hm3.2.1] at ht
        rcases ht with ⟨ha, rfl, rfl, hlt2⟩ | ⟨ha, rfl, rfl⟩
        · rcases f_if_eq H k18_47 (t := 54) (by decide) with ⟨c, H⟩ | ⟨-, H⟩
          · exact absurd c (by decide)
          have H := f_iconst H k18_50 (v := 1) (by decide)
          have H := f_goto H k18_51 (t := 55) (by decide)
          have H := f_iret H k18_55
          have hge2 : h2 ≤ sk N t h2 := sk_ge
          exact ⟨_, _, H, Or.inl ⟨sk N t h2 + 1, rfl, rdS_h hm3 (by omega), by omega, Rok_go hstS (Rok_app (is := [.cond (dp + 1)]) (js := [.tok 41]) hok (Rok_go (is := []) (by unfold stP; rw [st_tok, if_pos ha]) Rok_nil))⟩⟩
        · rcases f_if_eq H k18_47 (t := 54) (by decide) with ⟨-, H⟩ | ⟨c, H⟩
          · have H := f_iconst H k18_54 (v := 0) (by decide)
            have H := f_iret H k18_55
            exact ⟨_, _, H, Or.inr ⟨sk N t h2, sk N t h2, rfl, rdS_w (rdS_h hm3 (sk_le hm3.1.2.2.2.1)), mI_at, Rno_go hstS (Rno_app2 (is := [.cond (dp + 1)]) (js := [.tok 41]) hok (Rno_bad (by unfold stP; rw [st_tok, if_neg ha])))⟩⟩
          · exact absurd rfl c
      · rcases f_if_eq H k18_35 (t := 54) (by decide) with ⟨-, H⟩ | ⟨c, H⟩
        · have H := f_iconst H k18_54 (v := 0) (by decide)
          have H := f_iret H k18_55
          exact ⟨_, _, H, Or.inr ⟨w, h2, rfl, hm3, hw, Rno_go hstS (Rno_app1 (js := [.tok 41]) hno)⟩⟩
        · exact absurd rfl c
  · rw [Int32.lt_iff_toInt_lt, nI_toInt (by omega), nI_toInt (by omega)] at c
    have H := f_aload_n H k18_6 (x := 45) rfl
    have H := f_getfield H k18_7 (ci := 2) (f := 0) (v := .ref 1) (by decide +kernel) (show rvl (m.2.2 45 0) = _ by rw [e5]; rfl)
    obtain ⟨rv, m2, ⟨rfl, rfl⟩, H⟩ := f_inv H k18_10 (by decide +kernel) (as := []) (b := 1) (r := []) (by rfl) (c_refuseHere hm.1)
    have H := f_iret H k18_13
    refine ⟨_, _, H, Or.inr ⟨p, p, rfl, rdS_w hm, mI_at, Rno_bad ?_⟩⟩
    rw [hst, st_unit]
    rcases hs with hs | hs
    · rw [if_pos hs, if_neg (by omega)]
    · rw [if_neg (by rw [hs]; decide), if_pos hs, if_neg (by omega)]
set_option maxHeartbeats 4000000 in
theorem c_readUnit {m : xM} {N h dp : Nat} {t : Nat → Int32} {b : Int32} (hm : rdS m N h t) (hdp : dp ≤ 6) (hb : b = 0 ∨ b = 1) (hC : dp < 6 → ∀ m h, rdS m N h t → fC 15 [.ref 45, .int (nI (dp + 1)), .int 0] m (rdO N t h [.cond (dp + 1)] m)) (hU : dp < 6 → ∀ m h, rdS m N h t → fC 17 [.ref 45, .int (nI (dp + 1)), .int 0] m (rdO N t h [.unit (dp + 1)] m)) : fC 17 [.ref 45, .int (nI dp), .int b] m (rdO N t h [if b = 0 then .unit dp else .rel dp] m) := by
  refine fC_of (by decide) (fun d n P H => ?_)
  have hsum : ∀ m h, rdS m N h t → fC 19 [.ref 45, .int (nI dp)] m (rdO N t h [.sum dp] m) := fun m h hm => c_sum (6 - dp) dp (by omega) m h hm
  have tail : ∀ l m2 h2, rdS m2 N h2 t → lkl 0 l = some (.ref 45) → (∀ s, sv1 3 (.int s) l = [(3, .int s), (0, .ref 45), (1, .int (nI dp)), (2, .int b)]) → xF 17 (xw d) P n 41 l [] m2 → ∃ rv m', P rv m' ∧ rdO N t h2 [.rel dp] m2 rv m' := by
    intro l m2 h2 hm2 q0 q3 H
    have hh := hm2.1.2.2.2.1
    have hp : sk N t h2 ≤ N := sk_le hh
    have hge : h2 ≤ sk N t h2 := sk_ge
    have e5 := hm2.2.2.1
    have H := f_aload_n H k17_41 (x := 45) q0
    have H := f_getfield H k17_42 (ci := 2) (f := 0) (v := .ref 1) (by decide +kernel) (show rvl (m2.2.2 45 0) = _ by rw [e5]; rfl)
    obtain ⟨rv, m1, ⟨rfl, e9⟩, H⟩ := f_inv H k17_45 (by decide +kernel) (as := []) (b := 1) (r := []) (by rfl) (c_ahead hm2.1)
    rw [hm2.2.1] at H e9
    have hm1 : rdS m1 N (sk N t h2) t := by rw [e9]; exact rdS_h hm2 hp
    clear e9
    have hst : ∀ i, stP N t i h2 = stI N t h2 (sk N t h2) (atv N t (sk N t h2)) i := fun i => rfl
    have e51 := hm1.2.2.1
    have hlt : atv N t (sk N t h2) ≠ -1 → sk N t h2 < N := at_lt
    generalize sk N t h2 = p at *
    generalize atv N t p = s at *
    have H := f_istore_n H k17_48 (q3 s)
    have H := f_iload_n H k17_49 (x := s) rfl
    obtain ⟨rv, m', ⟨hz, rfl⟩, H⟩ := f_ins H k17_50 (by decide +kernel) (as := [.int s]) (r := []) (by rfl) c_isRelation
    rcases hz with ⟨hz, rfl⟩ | ⟨hz, rfl⟩
    · rcases f_if_ne H k17_53 (t := 64) (by decide) with ⟨-, H⟩ | ⟨c, H⟩
      · have hpN : p < N := hlt (fun z => by rw [z] at hz; exact absurd hz (by decide))
        have hstS : stP N t (.rel dp) h2 = .inl ([.sum dp], p + 1) := by rw [hst, st_rel, if_pos hz]
        have H := f_aload_n H k17_64 (x := 45) rfl
        have H := f_getfield H k17_65 (ci := 2) (f := 0) (v := .ref 1) (by decide +kernel) (show rvl (m'.2.2 45 0) = _ by rw [e51]; rfl)
        obtain ⟨rv, m3, ⟨rfl, e9⟩, H⟩ := f_inv H k17_68 (by decide +kernel) (as := []) (b := 1) (r := []) (by rfl) (c_step hm1.1)
        have hm3 : rdS m3 N (p + 1) t := by rw [e9]; exact rdS_h hm1 (by omega)
        clear e9
        have H := f_aload_n H k17_71 (x := 45) rfl
        have H := f_iload_n H k17_72 (x := nI dp) rfl
        obtain ⟨rv, m4, ho, H⟩ := f_inv H k17_73 (by decide +kernel) (as := [.int (nI dp)]) (b := 45) (r := []) (by rfl) (hsum m3 (p + 1) hm3)
        rcases ho with ⟨h3, rfl, hm4, hle, hok⟩ | ⟨w, h3, rfl, hm4, hw, hno⟩
        · rcases f_if_ne H k17_76 (t := 81) (by decide) with ⟨-, H⟩ | ⟨c, H⟩
          · have H := f_aload_n H k17_81 (x := 45) rfl
            have H := f_iload_n H k17_82 (x := s) rfl
            have H := f_ineg H k17_83
            obtain ⟨rv, m5, ⟨rfl, hm5, -⟩, H⟩ := f_inv H k17_84 (by decide +kernel) (as := [.int (-s)]) (b := 45) (r := []) (by rfl) (c_emit hm4)
            have H := f_iconst H k17_87 (v := 1) (by decide)
            have H := f_iret H k17_88
            exact ⟨_, _, H, Or.inl ⟨h3, rfl, hm5, by omega, Rok_go hstS hok⟩⟩
          · exact absurd c (by decide)
        · rcases f_if_ne H k17_76 (t := 81) (by decide) with ⟨c, H⟩ | ⟨-, H⟩
          · exact absurd rfl c
          · have H := f_iconst H k17_79 (v := 0) (by decide)
            have H := f_iret H k17_80
            exact ⟨_, _, H, Or.inr ⟨w, h3, rfl, hm4, hw, Rno_go hstS hno⟩⟩
      · exact absurd c (by decide)
    · rcases f_if_ne H k17_53 (t := 64) (by decide) with ⟨c, H⟩ | ⟨-, H⟩
      · exact absurd rfl c
      · have H := f_aload_n H k17_56 (x := 45) rfl
        have H := f_getfield H k17_57 (ci := 2) (f := 0) (v := .ref 1) (by decide +kernel) (show rvl (m'.2.2 45 0) = _ by rw [e51]; rfl)
        obtain ⟨rv, m2, ⟨rfl, rfl⟩, H⟩ := f_inv H k17_60 (by decide +kernel) (as := []) (b := 1) (r := []) (by rfl) (c_refuseHere hm1.1)
        have H := f_iret H k17_63
        exact ⟨_, _, H, Or.inr ⟨p, p, rfl, rdS_w hm1, mI_at, Rno_bad (by rw [hst, st_rel, if_neg hz])⟩⟩
  have H := f_iload_n H k17_0 (x := b) rfl
  rcases f_if_ne H k17_1 (t := 41) (by decide) with ⟨c, H⟩ | ⟨c, H⟩
  · rw [if_neg c]
    exact tail _ m h hm rfl (fun _ => rfl) H
  · rw [if_pos c]
    have hh := hm.1.2.2.2.1
    have hp : sk N t h ≤ N := sk_le hh
    have hge : h ≤ sk N t h := sk_ge
    have hsk : sk N t (sk N t h) = sk N t h := sk_sk hh
    have e5 := hm.2.2.1
    have H := f_aload_n H k17_4 (x := 45) rfl
    have H := f_getfield H k17_5 (ci := 2) (f := 0) (v := .ref 1) (by decide +kernel) (show rvl (m.2.2 45 0) = _ by rw [e5]; rfl)
    obtain ⟨rv, m1, ⟨rfl, e9⟩, H⟩ := f_inv H k17_8 (by decide +kernel) (as := []) (b := 1) (r := []) (by rfl) (c_ahead hm.1)
    rw [hm.2.1] at H e9
    have hm1 : rdS m1 N (sk N t h) t := by rw [e9]; exact rdS_h hm hp
    clear e9
    have hst : ∀ i, stP N t i h = stI N t h (sk N t h) (atv N t (sk N t h)) i := fun i => rfl
    generalize sk N t h = p at *
    generalize hse : atv N t p = s at *
    have hsp : ∀ x, stP N t (.unit dp) h = x → stP N t (.unit dp) p = x := fun x hx => by
      rw [← hx, hst]
      unfold stP
      rw [hsk, hse, st_unit, st_unit]
    have hup : ∀ x, stP N t (.unit dp) p = x → stP N t (.unit dp) h = x := fun x hx => by
      rw [← hx, hst]
      unfold stP
      rw [hsk, hse, st_unit, st_unit]
    have H := f_istore_n H k17_11 (l2 := [(3, .int s), (0, .ref 45), (1, .int (nI dp)), (2, .int b)]) rfl
    have nest : (s = 33 ∨ s = 40) → xF 17 (xw d) P n 24 [(3, .int s), (0, .ref 45), (1, .int (nI dp)), (2, .int b)] [] m1 → ∃ rv m', P rv m' ∧ rdO N t h [.unit dp] m rv m' := by
      intro hs H
      have H := f_aload_n H k17_24 (x := 45) rfl
      have H := f_iload_n H k17_25 (x := nI dp) rfl
      have H := f_iload_n H k17_26 (x := s) rfl
      obtain ⟨rv, m4, ho, H⟩ := f_inv H k17_27 (by decide +kernel) (as := [.int (nI dp), .int s]) (b := 45) (r := []) (by rfl) (c_readNested hm1 hdp hsk hse hs hC hU)
      have go : ∀ r, ∀ rest, Rn N t (.unit dp :: rest) p r → Rn N t (.unit dp :: rest) h r := by
        intro r rest hr
        rcases Rn_inv hr with ⟨is, h2, e, hk⟩ | ⟨w, e, rfl⟩
        · exact Rn_go (hup _ e) hk
        · exact Rn_bad (hup _ e)
      rcases ho with ⟨h3, rfl, hm4, hle, hok⟩ | ⟨w, h3, rfl, hm4, hw, hno⟩
      · have H := f_iret H k17_30
        exact ⟨_, _, H, Or.inl ⟨h3, rfl, hm4, by omega, fun rest r hr => go r rest (hok rest r hr)⟩⟩
      · have H := f_iret H k17_30
        exact ⟨_, _, H, Or.inr ⟨w, h3, rfl, hm4, hw, fun rest => go _ rest (hno rest)⟩⟩
    have H := f_iload_n H k17_12 (x := s) rfl
    have H := f_bipush H k17_13 (v := 33) (by decide)
    rcases f_icmp_eq H k17_15 (t := 24) (by decide) with ⟨c1, H⟩ | ⟨c1, H⟩
    · exact nest (Or.inl c1) H
    have H := f_iload_n H k17_18 (x := s) rfl
    have H := f_bipush H k17_19 (v := 40) (by decide)
    rcases f_icmp_ne H k17_21 (t := 31) (by decide) with ⟨c2, H⟩ | ⟨c2, H⟩
    · have hstS : stP N t (.unit dp) h = .inl ([.sum dp, .rel dp], p) := by rw [hst, st_unit, if_neg c1, if_neg c2]
      have H := f_aload_n H k17_31 (x := 45) rfl
      have H := f_iload_n H k17_32 (x := nI dp) rfl
      obtain ⟨rv, m4, ho, H⟩ := f_inv H k17_33 (by decide +kernel) (as := [.int (nI dp)]) (b := 45) (r := []) (by rfl) (hsum m1 p hm1)
      rcases ho with ⟨h3, rfl, hm4, hle, hok⟩ | ⟨w, h3, rfl, hm4, hw, hno⟩
      · rcases f_if_ne H k17_36 (t := 41) (by decide) with ⟨-, H⟩ | ⟨c, H⟩
        · obtain ⟨rv, m6, hP, ho⟩ := tail _ m4 h3 hm4 rfl (fun _ => rfl) H
          refine ⟨rv, m6, hP, ?_⟩
          rcases ho with ⟨h4, e1, q4, q5, q6⟩ | ⟨w, h4, e1, q4, q5, q6⟩
          · exact Or.inl ⟨h4, e1, q4, by omega, Rok_go hstS (Rok_app (is := [.sum dp]) (js := [.rel dp]) hok q6)⟩
          · exact Or.inr ⟨w, h4, e1, q4, q5, Rno_go hstS (Rno_app2 (is := [.sum dp]) (js := [.rel dp]) hok q6)⟩
        · exact absurd c (by decide)
      · rcases f_if_ne H k17_36 (t := 41) (by decide) with ⟨c, H⟩ | ⟨-, H⟩
        · exact absurd rfl c
        · have H := f_iconst H k17_39 (v := 0) (by decide)
          have H := f_iret H k17_40
          exact ⟨_, _, H, Or.inr ⟨w, h3, rfl, hm4, hw, Rno_go hstS (Rno_app1 (js := [.rel dp]) hno)⟩⟩
    · exact nest (Or.inr c2) H
/-- conditions and units at one depth, out of those one deeper -/
theorem c_cu1 {N dp : Nat} {t : Nat → Int32} (hdp : dp ≤ 6) (hC : dp < 6 → ∀ m h, rdS m N h t → fC 15 [.ref 45, .int (nI (dp + 1)), .int 0] m (rdO N t h [.cond (dp + 1)] m)) (hU : dp < 6 → ∀ m h, rdS m N h t → fC 17 [.ref 45, .int (nI (dp + 1)), .int 0] m (rdO N t h [.unit (dp + 1)] m)) : (∀ b : Int32, b = 0 ∨ b = 1 → ∀ m h, rdS m N h t → fC 15 [.ref 45, .int (nI dp), .int b] m (rdO N t h [if b = 0 then .cond dp else .condB dp] m)) ∧ ∀ m h, rdS m N h t → fC 17 [.ref 45, .int (nI dp), .int 0] m (rdO N t h [.unit dp] m) := by
  have U : ∀ b : Int32, b = 0 ∨ b = 1 → ∀ m h, rdS m N h t → fC 17 [.ref 45, .int (nI dp), .int b] m (rdO N t h [if b = 0 then .unit dp else .rel dp] m) := fun b hb m h hm => c_readUnit hm hdp hb hC hU
  have U0 : ∀ m h, rdS m N h t → fC 17 [.ref 45, .int (nI dp), .int 0] m (rdO N t h [.unit dp] m) := fun m h hm => U 0 (Or.inl rfl) m h hm
  have T : ∀ b : Int32, b = 0 ∨ b = 1 → ∀ m h, rdS m N h t → fC 16 [.ref 45, .int (nI dp), .int b] m (rdO N t h [if b = 0 then .truth dp else .truthB dp] m) := fun b hb m h hm => c_readTruth (F := if b = 0 then .unit dp else .rel dp) (G := if b = 0 then .truth dp else .truthB dp) hm hdp (fun h => by split <;> rfl) (U b hb) U0
  exact ⟨fun b hb m h hm => c_readCondition (F := if b = 0 then .truth dp else .truthB dp) (G := if b = 0 then .cond dp else .condB dp) hm hdp (fun h => by split <;> rfl) (T b hb) (fun m h hm => T 0 (Or.inl rfl) m h hm), U0⟩
theorem c_cu {N : Nat} {t : Nat → Int32} : ∀ j dp, dp + j = 6 → (∀ b : Int32, b = 0 ∨ b = 1 → ∀ m h, rdS m N h t → fC 15 [.ref 45, .int (nI dp), .int b] m (rdO N t h [if b = 0 then .cond dp else .condB dp] m)) ∧ ∀ m h, rdS m N h t → fC 17 [.ref 45, .int (nI dp), .int 0] m (rdO N t h [.unit dp] m) := by
  intro j
  induction j with
  | zero => exact fun dp hd => c_cu1 (by omega) (fun z => by omega) (fun z => by omega)
  | succ j ih => exact fun dp hd => c_cu1 (by omega) (fun _ m h hm => (ih (dp + 1) (by omega)).1 0 (Or.inl rfl) m h hm) (fun _ m h hm => (ih (dp + 1) (by omega)).2 m h hm)
theorem c_cond0 {N : Nat} {t : Nat → Int32} {b : Int32} (hb : b = 0 ∨ b = 1) : ∀ m h, rdS m N h t → fC 15 [.ref 45, .int 0, .int b] m (rdO N t h [if b = 0 then .cond 0 else .condB 0] m) := (c_cu 6 0 rfl).1 b hb
theorem c_sum0 {N : Nat} {t : Nat → Int32} : ∀ m h, rdS m N h t → fC 19 [.ref 45, .int 0] m (rdO N t h [.sum 0] m) := c_sum 6 0 rfl
theorem st_clz {N : Nat} {t : Nat → Int32} {h p : Nat} {s : Int32} : stI N t h p s .clz = if s = 33 ∨ s = 40 then .inl ([.cond 0, .tok 63, .sum 0], p) else .inl ([.sum 0, .clq], p) := rfl
theorem st_clq {N : Nat} {t : Nat → Int32} {h p : Nat} {s : Int32} : stI N t h p s .clq = if isRel s then .inl ([.condB 0, .tok 63, .sum 0], p) else .inl ([], p) := rfl
theorem tok_ok {N h : Nat} {t : Nat → Int32} {c : Int32} (ha : atv N t (sk N t h) = c) : Rok N t [.tok c] h (sk N t h + 1) := Rok_go (is := []) (by unfold stP; rw [st_tok, if_pos ha]) Rok_nil
theorem tok_no {N h : Nat} {t : Nat → Int32} {c : Int32} (ha : atv N t (sk N t h) ≠ c) : Rno N t [.tok c] h (sk N t h) := Rno_bad (by unfold stP; rw [st_tok, if_neg ha])
set_option maxHeartbeats 4000000 in
theorem c_readClause {m : xM} {N h : Nat} {t : Nat → Int32} (hm : rdS m N h t) : fC 14 [.ref 45] m (rdO N t h [.clause] m) := by
  refine fC_of (by decide) (fun d n P H => ?_)
  have hcl : stP N t .clause h = .inl ([.tok 121, .tok 58, .clz], h) := rfl
  have tail : ∀ (C : It) (b : Int32) l m2 h4, rdS m2 N h4 t → fC 15 [.ref 45, .int 0, .int b] m2 (rdO N t h4 [C] m2) → lkl 0 l = some (.ref 45) → lkl 2 l = some (.int b) → xF 14 (xw d) P n 83 l [] m2 → ∃ rv m', P rv m' ∧ rdO N t h4 [C, .tok 63, .sum 0] m2 rv m' := by
    intro C b l m2 h4 hm2 hC q0 q2 H
    have zero : ∀ (m3 : xM) w h5, rdS m3 N h5 t → m3.1 1 3 = nI w → Rno N t [C, .tok 63, .sum 0] h4 w → xF 14 (xw d) P n 104 l [] m3 → ∃ rv m', P rv m' ∧ rdO N t h4 [C, .tok 63, .sum 0] m2 rv m' := by
      intro m3 w h5 q1 q2 q3 H
      have H := f_iconst H k14_104 (v := 0) (by decide)
      have H := f_iret H k14_105
      exact ⟨_, _, H, Or.inr ⟨w, h5, rfl, q1, q2, q3⟩⟩
    have H := f_aload_n H k14_83 (x := 45) q0
    have H := f_iconst H k14_84 (v := 0) (by decide)
    have H := f_iload_n H k14_85 (x := b) q2
    obtain ⟨rv, m3, ho, H⟩ := f_inv H k14_86 (by decide +kernel) (as := [.int 0, .int b]) (b := 45) (r := []) (by rfl) hC
    rcases ho with ⟨h5, rfl, hm3, hle, hok⟩ | ⟨w, h5, rfl, hm3, hw, hno⟩
    · rcases f_if_eq H k14_89 (t := 104) (by decide) with ⟨c, H⟩ | ⟨-, H⟩
      · exact absurd c (by decide)
      have e53 := hm3.2.2.1
      have H := f_aload_n H k14_92 (x := 45) q0
      have H := f_getfield H k14_93 (ci := 2) (f := 0) (v := .ref 1) (by decide +kernel) (show rvl (m3.2.2 45 0) = _ by rw [e53]; rfl)
      have H := f_bipush H k14_96 (v := 63) (by decide)
      obtain ⟨rv, m4, ht, H⟩ := f_inv H k14_98 (by decide +kernel) (as := [.int 63]) (b := 1) (r := []) (by rfl) (c_take (s := 63) hm3.1 (by decide))
      rw [hm3.2.1] at ht
      have hge5 : h5 ≤ sk N t h5 := sk_ge
      rcases ht with ⟨ha, rfl, e9, hlt2⟩ | ⟨ha, rfl, rfl⟩
      · rcases f_if_ne H k14_101 (t := 106) (by decide) with ⟨-, H⟩ | ⟨c, H⟩
        · have hm4 : rdS m4 N (sk N t h5 + 1) t := by rw [e9]; exact rdS_h hm3 (by omega)
          clear e9
          have H := f_aload_n H k14_106 (x := 45) q0
          have H := f_bipush H k14_107 (v := -63) (by decide)
          obtain ⟨rv, m6, ⟨rfl, hm6, -⟩, H⟩ := f_inv H k14_109 (by decide +kernel) (as := [.int (-63)]) (b := 45) (r := []) (by rfl) (c_emit hm4)
          have H := f_aload_n H k14_112 (x := 45) q0
          have H := f_iconst H k14_113 (v := 0) (by decide)
          obtain ⟨rv, m7, ho, H⟩ := f_inv H k14_114 (by decide +kernel) (as := [.int 0]) (b := 45) (r := []) (by rfl) (c_sum0 m6 _ hm6)
          rcases ho with ⟨h8, rfl, hm8, hle8, hok8⟩ | ⟨w, h8, rfl, hm8, hw, hno⟩
          · rcases f_if_ne H k14_117 (t := 122) (by decide) with ⟨-, H⟩ | ⟨c, H⟩
            · have H := f_aload_n H k14_122 (x := 45) q0
              have H := f_bipush H k14_123 (v := -59) (by decide)
              obtain ⟨rv, m9, ⟨rfl, hm9, -⟩, H⟩ := f_inv H k14_125 (by decide +kernel) (as := [.int (-59)]) (b := 45) (r := []) (by rfl) (c_emit hm8)
              have H := f_iconst H k14_128 (v := 1) (by decide)
              have H := f_iret H k14_129
              exact ⟨_, _, H, Or.inl ⟨h8, rfl, hm9, by omega, Rok_app (is := [C]) (js := [.tok 63, .sum 0]) hok (Rok_app (is := [.tok 63]) (js := [.sum 0]) (tok_ok ha) hok8)⟩⟩
            · exact absurd c (by decide)
          · rcases f_if_ne H k14_117 (t := 122) (by decide) with ⟨c, H⟩ | ⟨-, H⟩
            · exact absurd rfl c
            · have H := f_iconst H k14_120 (v := 0) (by decide)
              have H := f_iret H k14_121
              exact ⟨_, _, H, Or.inr ⟨w, h8, rfl, hm8, hw, Rno_app2 (is := [C]) (js := [.tok 63, .sum 0]) hok (Rno_app2 (is := [.tok 63]) (js := [.sum 0]) (tok_ok ha) hno)⟩⟩
        · exact absurd c (by decide)
      · rcases f_if_ne H k14_101 (t := 106) (by decide) with ⟨c, H⟩ | ⟨-, H⟩
        · exact absurd rfl c
        · exact zero _ (sk N t h5) (sk N t h5) (rdS_w (rdS_h hm3 (sk_le hm3.1.2.2.2.1))) mI_at (Rno_app2 (is := [C]) (js := [.tok 63, .sum 0]) hok (Rno_app1 (is := [.tok 63]) (js := [.sum 0]) (tok_no ha))) H
    · rcases f_if_eq H k14_89 (t := 104) (by decide) with ⟨-, H⟩ | ⟨c, H⟩
      · exact zero _ w h5 hm3 hw (Rno_app1 (is := [C]) (js := [.tok 63, .sum 0]) hno) H
      · exact absurd rfl c
  have e5 := hm.2.2.1
  have zero : ∀ (m3 : xM) w h5, rdS m3 N h5 t → m3.1 1 3 = nI w → Rno N t [.clause] h w → xF 14 (xw d) P n 24 [(0, .ref 45)] [] m3 → ∃ rv m', P rv m' ∧ rdO N t h [.clause] m rv m' := by
    intro m3 w h5 q1 q2 q3 H
    have H := f_iconst H k14_24 (v := 0) (by decide)
    have H := f_iret H k14_25
    exact ⟨_, _, H, Or.inr ⟨w, h5, rfl, q1, q2, q3⟩⟩
  have hge0 : h ≤ sk N t h := sk_ge
  have H := f_aload_n H k14_0 (x := 45) rfl
  have H := f_getfield H k14_1 (ci := 2) (f := 0) (v := .ref 1) (by decide +kernel) (show rvl (m.2.2 45 0) = _ by rw [e5]; rfl)
  have H := f_bipush H k14_4 (v := 121) (by decide)
  obtain ⟨rv, m1, ht, H⟩ := f_inv H k14_6 (by decide +kernel) (as := [.int 121]) (b := 1) (r := []) (by rfl) (c_take (s := 121) hm.1 (by decide))
  rw [hm.2.1] at ht
  rcases ht with ⟨ha, rfl, e9, hlt⟩ | ⟨ha, rfl, rfl⟩
  · rcases f_if_eq H k14_9 (t := 24) (by decide) with ⟨c, H⟩ | ⟨-, H⟩
    · exact absurd c (by decide)
    have hm1 : rdS m1 N (sk N t h + 1) t := by rw [e9]; exact rdS_h hm (by omega)
    clear e9
    have ok1 := tok_ok ha
    have hle1 : h ≤ sk N t h + 1 := by omega
    generalize sk N t h + 1 = h1 at *
    have e51 := hm1.2.2.1
    have hge1 : h1 ≤ sk N t h1 := sk_ge
    have H := f_aload_n H k14_12 (x := 45) rfl
    have H := f_getfield H k14_13 (ci := 2) (f := 0) (v := .ref 1) (by decide +kernel) (show rvl (m1.2.2 45 0) = _ by rw [e51]; rfl)
    have H := f_bipush H k14_16 (v := 58) (by decide)
    obtain ⟨rv, m2, ht, H⟩ := f_inv H k14_18 (by decide +kernel) (as := [.int 58]) (b := 1) (r := []) (by rfl) (c_take (s := 58) hm1.1 (by decide))
    rw [hm1.2.1] at ht
    rcases ht with ⟨ha, rfl, e9, hlt1⟩ | ⟨ha, rfl, rfl⟩
    · rcases f_if_ne H k14_21 (t := 26) (by decide) with ⟨-, H⟩ | ⟨c, H⟩
      · have hm2 : rdS m2 N (sk N t h1 + 1) t := by rw [e9]; exact rdS_h hm1 (by omega)
        clear e9
        have ok2 := tok_ok ha
        have hle2 : h1 ≤ sk N t h1 + 1 := by omega
        generalize sk N t h1 + 1 = h2 at *
        -- what the rest says goes up to the clause
        have up : ∀ rv m', rdO N t h2 [.clz] m2 rv m' → h ≤ h2 → rdO N t h [.clause] m rv m' := by
          intro rv m' ho hh2
          rcases ho with ⟨h4, e1, q4, q5, q6⟩ | ⟨w, h4, e1, q4, q5, q6⟩
          · exact Or.inl ⟨h4, e1, q4, by omega, Rok_go hcl (Rok_app (is := [.tok 121]) (js := [.tok 58, .clz]) ok1 (Rok_app (is := [.tok 58]) (js := [.clz]) ok2 q6))⟩
          · exact Or.inr ⟨w, h4, e1, q4, q5, Rno_go hcl (Rno_app2 (is := [.tok 121]) (js := [.tok 58, .clz]) ok1 (Rno_app2 (is := [.tok 58]) (js := [.clz]) ok2 q6))⟩
        have rest : ∃ rv m', P rv m' ∧ rdO N t h2 [.clz] m2 rv m' := by
          have e52 := hm2.2.2.1
          have hp : sk N t h2 ≤ N := sk_le hm2.1.2.2.2.1
          have hge2 : h2 ≤ sk N t h2 := sk_ge
          have H := f_aload_n H k14_26 (x := 45) rfl
          have H := f_getfield H k14_27 (ci := 2) (f := 0) (v := .ref 1) (by decide +kernel) (show rvl (m2.2.2 45 0) = _ by rw [e52]; rfl)
          obtain ⟨rv, m3, ⟨rfl, e9⟩, H⟩ := f_inv H k14_30 (by decide +kernel) (as := []) (b := 1) (r := []) (by rfl) (c_ahead hm2.1)
          rw [hm2.2.1] at H e9
          have hm3 : rdS m3 N (sk N t h2) t := by rw [e9]; exact rdS_h hm2 hp
          clear e9
          have hst : ∀ i, stP N t i h2 = stI N t h2 (sk N t h2) (atv N t (sk N t h2)) i := fun i => rfl
          generalize sk N t h2 = p at *
          generalize atv N t p = s at *
          have H := f_istore_n H k14_33 (l2 := [(1, .int s), (0, .ref 45)]) rfl
          have zc : (s = 33 ∨ s = 40) → xF 14 (xw d) P n 50 [(1, .int s), (0, .ref 45)] [] m3 → ∃ rv m', P rv m' ∧ rdO N t h2 [.clz] m2 rv m' := by
            intro hs H
            have H := f_iconst H k14_50 (v := 0) (by decide)
            have H := f_istore_n H k14_51 (l2 := [(2, .int 0), (1, .int s), (0, .ref 45)]) rfl
            have H := f_iload_n H k14_52 (x := 0) rfl
            rcases f_if_eq H k14_53 (t := 66) (by decide) with ⟨-, H⟩ | ⟨c, H⟩
            · have H := f_iload_n H k14_66 (x := 0) rfl
              rcases f_if_eq H k14_67 (t := 83) (by decide) with ⟨-, H⟩ | ⟨c, H⟩
              · obtain ⟨rv, m', hP, ho⟩ := tail (.cond 0) 0 _ m3 p hm3 (c_cond0 (Or.inl rfl) m3 p hm3) rfl rfl H
                refine ⟨rv, m', hP, ?_⟩
                have hz : stP N t .clz h2 = .inl ([.cond 0, .tok 63, .sum 0], p) := by rw [hst, st_clz, if_pos hs]
                rcases ho with ⟨h4, e1, q4, q5, q6⟩ | ⟨w, h4, e1, q4, q5, q6⟩
                · exact Or.inl ⟨h4, e1, q4, by omega, Rok_go hz q6⟩
                · exact Or.inr ⟨w, h4, e1, q4, q5, Rno_go hz q6⟩
              · exact absurd rfl c
            · exact absurd rfl c
          have H := f_iload_n H k14_34 (x := s) rfl
          have H := f_bipush H k14_35 (v := 33) (by decide)
          rcases f_icmp_eq H k14_37 (t := 50) (by decide) with ⟨c1, H⟩ | ⟨c1, H⟩
          · exact zc (Or.inl c1) H
          have H := f_iload_n H k14_40 (x := s) rfl
          have H := f_bipush H k14_41 (v := 40) (by decide)
          rcases f_icmp_eq H k14_43 (t := 50) (by decide) with ⟨c2, H⟩ | ⟨c2, H⟩
          · exact zc (Or.inr c2) H
          have hz : stP N t .clz h2 = .inl ([.sum 0, .clq], p) := by rw [hst, st_clz, if_neg (fun z => z.elim c1 c2)]
          have H := f_iconst H k14_46 (v := 1) (by decide)
          have H := f_goto H k14_47 (t := 51) (by decide)
          have H := f_istore_n H k14_51 (l2 := [(2, .int 1), (1, .int s), (0, .ref 45)]) rfl
          have H := f_iload_n H k14_52 (x := 1) rfl
          rcases f_if_eq H k14_53 (t := 66) (by decide) with ⟨c, H⟩ | ⟨-, H⟩
          · exact absurd c (by decide)
          have H := f_aload_n H k14_56 (x := 45) rfl
          have H := f_iconst H k14_57 (v := 0) (by decide)
          obtain ⟨rv, m4, ho, H⟩ := f_inv H k14_58 (by decide +kernel) (as := [.int 0]) (b := 45) (r := []) (by rfl) (c_sum0 m3 p hm3)
          rcases ho with ⟨h4, rfl, hm4, hle4, hok4⟩ | ⟨w, h4, rfl, hm4, hw, hno⟩
          · rcases f_if_ne H k14_61 (t := 66) (by decide) with ⟨-, H⟩ | ⟨c, H⟩
            · have e54 := hm4.2.2.1
              have hp4 : sk N t h4 ≤ N := sk_le hm4.1.2.2.2.1
              have hge4 : h4 ≤ sk N t h4 := sk_ge
              have H := f_iload_n H k14_66 (x := 1) rfl
              rcases f_if_eq H k14_67 (t := 83) (by decide) with ⟨c, H⟩ | ⟨-, H⟩
              · exact absurd c (by decide)
              have H := f_aload_n H k14_70 (x := 45) rfl
              have H := f_getfield H k14_71 (ci := 2) (f := 0) (v := .ref 1) (by decide +kernel) (show rvl (m4.2.2 45 0) = _ by rw [e54]; rfl)
              obtain ⟨rv, m5, ⟨rfl, e9⟩, H⟩ := f_inv H k14_74 (by decide +kernel) (as := []) (b := 1) (r := []) (by rfl) (c_ahead hm4.1)
              rw [hm4.2.1] at H e9
              have hm5 : rdS m5 N (sk N t h4) t := by rw [e9]; exact rdS_h hm4 hp4
              clear e9
              have hst4 : ∀ i, stP N t i h4 = stI N t h4 (sk N t h4) (atv N t (sk N t h4)) i := fun i => rfl
              generalize sk N t h4 = p4 at *
              generalize atv N t p4 = s4 at *
              obtain ⟨rv, m', ⟨hr, rfl⟩, H⟩ := f_ins H k14_77 (by decide +kernel) (as := [.int s4]) (r := []) (by rfl) c_isRelation
              rcases hr with ⟨hr, rfl⟩ | ⟨hr, rfl⟩
              · rcases f_if_eq H k14_80 (t := 122) (by decide) with ⟨c, H⟩ | ⟨-, H⟩
                · exact absurd c (by decide)
                obtain ⟨rv, m', hP, ho⟩ := tail (.condB 0) 1 _ m' p4 hm5 (c_cond0 (Or.inr rfl) m' p4 hm5) rfl rfl H
                refine ⟨rv, _, hP, ?_⟩
                have hq : stP N t .clq h4 = .inl ([.condB 0, .tok 63, .sum 0], p4) := by rw [hst4, st_clq, if_pos hr]
                rcases ho with ⟨h5, e1, q4, q5, q6⟩ | ⟨w, h5, e1, q4, q5, q6⟩
                · exact Or.inl ⟨h5, e1, q4, by omega, Rok_go hz (Rok_app (is := [.sum 0]) (js := [.clq]) hok4 (Rok_go hq q6))⟩
                · exact Or.inr ⟨w, h5, e1, q4, q5, Rno_go hz (Rno_app2 (is := [.sum 0]) (js := [.clq]) hok4 (Rno_go hq q6))⟩
              · rcases f_if_eq H k14_80 (t := 122) (by decide) with ⟨-, H⟩ | ⟨c, H⟩
                · have hq : stP N t .clq h4 = .inl ([], p4) := by rw [hst4, st_clq, if_neg hr]
                  have H := f_aload_n H k14_122 (x := 45) rfl
                  have H := f_bipush H k14_123 (v := -59) (by decide)
                  obtain ⟨rv, m9, ⟨rfl, hm9, -⟩, H⟩ := f_inv H k14_125 (by decide +kernel) (as := [.int (-59)]) (b := 45) (r := []) (by rfl) (c_emit hm5)
                  have H := f_iconst H k14_128 (v := 1) (by decide)
                  have H := f_iret H k14_129
                  exact ⟨_, _, H, Or.inl ⟨p4, rfl, hm9, by omega, Rok_go hz (Rok_app (is := [.sum 0]) (js := [.clq]) hok4 (Rok_go (is := []) hq Rok_nil))⟩⟩
                · exact absurd rfl c
            · exact absurd c (by decide)
          · rcases f_if_ne H k14_61 (t := 66) (by decide) with ⟨c, H⟩ | ⟨-, H⟩
            · exact absurd rfl c
            · have H := f_iconst H k14_64 (v := 0) (by decide)
              have H := f_iret H k14_65
              exact ⟨_, _, H, Or.inr ⟨w, h4, rfl, hm4, hw, Rno_go hz (Rno_app1 (is := [.sum 0]) (js := [.clq]) hno)⟩⟩
        obtain ⟨rv, m', hP, ho⟩ := rest
        exact ⟨rv, m', hP, up rv m' ho (by omega)⟩
      · exact absurd c (by decide)
    · rcases f_if_ne H k14_21 (t := 26) (by decide) with ⟨c, H⟩ | ⟨-, H⟩
      · exact absurd rfl c
      · exact zero _ (sk N t h1) (sk N t h1) (rdS_w (rdS_h hm1 (sk_le hm1.1.2.2.2.1))) mI_at (Rno_go hcl (Rno_app2 (is := [.tok 121]) (js := [.tok 58, .clz]) ok1 (Rno_app1 (is := [.tok 58]) (js := [.clz]) (tok_no ha)))) H
  · rcases f_if_eq H k14_9 (t := 24) (by decide) with ⟨-, H⟩ | ⟨c, H⟩
    · exact zero _ (sk N t h) (sk N t h) (rdS_w (rdS_h hm (sk_le hm.1.2.2.2.1))) mI_at (Rno_go hcl (Rno_app1 (is := [.tok 121]) (js := [.tok 58, .clz]) (tok_no ha))) H
    · exact absurd rfl c
theorem st_lawL {N : Nat} {t : Nat → Int32} {h p : Nat} {s : Int32} : stI N t h p s .lawL = if s = -1 then .inl ([], p) else if s = 59 then .inl ([.clause, .lawL], p + 1) else .inr p := rfl
/-- the class's reading of a law's text: none, or where it fails -/
def lwO (N : Nat) (t : Nat → Int32) (rv : Option Value) (m' : xM) : Prop := (∃ h2, rdS m' N h2 t) ∧ ((∃ h2, rv = some (.int (-1)) ∧ Rok N t [.law] 0 h2) ∨ ∃ w, rv = some (.int (nI w)) ∧ Rno N t [.law] 0 w)
set_option maxHeartbeats 4000000 in
theorem c_readLaw {m : xM} {N : Nat} {t : Nat → Int32} (g1 : m.1 1 1 = nI N) (hN : N ≤ 240) (e4 : m.1 2 = t) (e3 : m.2.2 1 0 = some 2) (e5 : m.2.2 45 0 = some 1) (e6 : m.2.2 45 1 = some 46) : fC 13 [.ref 45] m (lwO N t) := by
  refine fC_of (by decide) (fun d n P H => ?_)
  have key : ∀ n r h2 m2, rdS m2 N h2 t → r ≤ h2 → xF 13 (xw d) P (n + 1) 14 [(1, .int (nI r)), (0, .ref 45)] [] m2 → ∃ rv m', P rv m' ∧ (∃ h9, rdS m' N h9 t) ∧ ((∃ h9, rv = some (.int (-1)) ∧ Rok N t [.clause, .lawL] h2 h9) ∨ ∃ w, rv = some (.int (nI w)) ∧ Rno N t [.clause, .lawL] h2 w) := by
    intro n
    induction n with
    | zero => exact fun r h2 m2 _ _ H => (xF_0 (f1_iload_n H k13_14 (x := nI r) rfl)).elim
    | succ n ih =>
      intro r h2 m2 hm2 hr H
      have hh := hm2.1.2.2.2.1
      have H := f1_iload_n H k13_14 (x := nI r) rfl
      have H := f_sipush H k13_15 (v := nI 240) (by decide)
      rcases f_icmp_gt H k13_18 (t := 75) (by decide) with ⟨c, H⟩ | ⟨-, H⟩
      · rw [Int32.lt_iff_toInt_lt, nI_toInt (by omega), nI_toInt (by omega)] at c
        omega
      have H := f_aload_n H k13_21 (x := 45) rfl
      obtain ⟨rv, m3, ho, H⟩ := f_inv H k13_22 (by decide +kernel) (as := []) (b := 45) (r := []) (by rfl) (c_readClause hm2)
      rcases ho with ⟨h3, rfl, hm3, hle, hok⟩ | ⟨w, h3, rfl, hm3, hw, hno⟩
      · rcases f_if_ne H k13_25 (t := 36) (by decide) with ⟨-, H⟩ | ⟨c, H⟩
        · have e53 := hm3.2.2.1
          have hp : sk N t h3 ≤ N := sk_le hm3.1.2.2.2.1
          have hge : h3 ≤ sk N t h3 := sk_ge
          have H := f_aload_n H k13_36 (x := 45) rfl
          have H := f_getfield H k13_37 (ci := 2) (f := 0) (v := .ref 1) (by decide +kernel) (show rvl (m3.2.2 45 0) = _ by rw [e53]; rfl)
          obtain ⟨rv, m4, ⟨rfl, e9⟩, H⟩ := f_inv H k13_40 (by decide +kernel) (as := []) (b := 1) (r := []) (by rfl) (c_ahead hm3.1)
          rw [hm3.2.1] at H e9
          have hm4 : rdS m4 N (sk N t h3) t := by rw [e9]; exact rdS_h hm3 hp
          clear e9
          have hsk : sk N t (sk N t h3) = sk N t h3 := sk_sk hm3.1.2.2.2.1
          have hst : ∀ i, stP N t i h3 = stI N t h3 (sk N t h3) (atv N t (sk N t h3)) i := fun i => rfl
          generalize sk N t h3 = p at *
          have e54 := hm4.2.2.1
          have H := f_iconst H k13_43 (v := -1) (by decide)
          rcases f_icmp_ne H k13_44 (t := 49) (by decide) with ⟨c1, H⟩ | ⟨c1, H⟩
          · have H := f_aload_n H k13_49 (x := 45) rfl
            have H := f_getfield H k13_50 (ci := 2) (f := 0) (v := .ref 1) (by decide +kernel) (show rvl (m4.2.2 45 0) = _ by rw [e54]; rfl)
            have H := f_bipush H k13_53 (v := 59) (by decide)
            obtain ⟨rv, m5, ht, H⟩ := f_inv H k13_55 (by decide +kernel) (as := [.int 59]) (b := 1) (r := []) (by rfl) (c_take (s := 59) hm4.1 (by decide))
            rw [hm4.2.1, hsk] at ht
            rcases ht with ⟨ha, rfl, e9, hlt⟩ | ⟨ha, rfl, e9⟩
            · have hm5 : rdS m5 N (p + 1) t := by rw [e9]; exact rdS_h hm4 (by omega)
              have hq : stP N t .lawL h3 = .inl ([.clause, .lawL], p + 1) := by rw [hst, st_lawL, if_neg c1, if_pos ha]
              rcases f_if_ne H k13_58 (t := 69) (by decide) with ⟨-, H⟩ | ⟨c, H⟩
              · have H := f_iinc H k13_69 (x := nI r) rfl (l2 := [(1, .int (nI r + nI 1)), (0, .ref 45)]) rfl
                have H := f_goto H k13_72 (t := 14) (by decide)
                rw [r_ad] at H
                obtain ⟨rv, m6, hP, hx, ho⟩ := ih (r + 1) (p + 1) m5 hm5 (by omega) H
                refine ⟨rv, m6, hP, hx, ?_⟩
                rcases ho with ⟨h9, e1, q⟩ | ⟨w, e1, q⟩
                · exact Or.inl ⟨h9, e1, Rok_app (is := [.clause]) (js := [.lawL]) hok (Rok_go hq q)⟩
                · exact Or.inr ⟨w, e1, Rno_app2 (is := [.clause]) (js := [.lawL]) hok (Rno_go hq q)⟩
              · exact absurd c (by decide)
            · have hm5 : rdS m5 N p t := by rw [e9]; exact rdS_w (rdS_h hm4 hp)
              have e55 := hm5.2.2.1
              have ew : m5.1 1 3 = nI p := by rw [e9]; exact mI_at
              have hq : stP N t .lawL h3 = .inr p := by rw [hst, st_lawL, if_neg c1, if_neg ha]
              rcases f_if_ne H k13_58 (t := 69) (by decide) with ⟨c, H⟩ | ⟨-, H⟩
              · exact absurd rfl c
              have H := f_aload_n H k13_61 (x := 45) rfl
              have H := f_getfield H k13_62 (ci := 2) (f := 0) (v := .ref 1) (by decide +kernel) (show rvl (m5.2.2 45 0) = _ by rw [e55]; rfl)
              have H := f_getfield H k13_65 (ci := 8) (f := 3) (v := .int (nI p)) (by decide +kernel) (by rw [← ew]; rfl)
              have H := f_iret H k13_68
              exact ⟨_, _, H, ⟨p, hm5⟩, Or.inr ⟨p, rfl, Rno_app2 (is := [.clause]) (js := [.lawL]) hok (Rno_bad hq)⟩⟩
          · have hq : stP N t .lawL h3 = .inl ([], p) := by rw [hst, st_lawL, if_pos c1]
            have H := f_iconst H k13_47 (v := -1) (by decide)
            have H := f_iret H k13_48
            exact ⟨_, _, H, ⟨p, hm4⟩, Or.inl ⟨p, rfl, Rok_app (is := [.clause]) (js := [.lawL]) hok (Rok_go (is := []) hq Rok_nil)⟩⟩
        · exact absurd c (by decide)
      · rcases f_if_ne H k13_25 (t := 36) (by decide) with ⟨c, H⟩ | ⟨-, H⟩
        · exact absurd rfl c
        have e53 := hm3.2.2.1
        have H := f_aload_n H k13_28 (x := 45) rfl
        have H := f_getfield H k13_29 (ci := 2) (f := 0) (v := .ref 1) (by decide +kernel) (show rvl (m3.2.2 45 0) = _ by rw [e53]; rfl)
        have H := f_getfield H k13_32 (ci := 8) (f := 3) (v := .int (nI w)) (by decide +kernel) (by rw [← hw]; rfl)
        have H := f_iret H k13_35
        exact ⟨_, _, H, ⟨h3, hm3⟩, Or.inr ⟨w, rfl, Rno_app1 (is := [.clause]) (js := [.lawL]) hno⟩⟩
  have hlaw : stP N t .law 0 = .inl ([.clause, .lawL], 0) := rfl
  have H := f_aload_n H k13_0 (x := 45) rfl
  have H := f_iconst H k13_1 (v := 0) (by decide)
  have H := f_put_i H k13_2 (ci := 2) (f := 2) (by decide +kernel) (by decide)
  have q1 : (mI m 45 2 0).1 1 1 = nI N := by rw [mI_ne (by omega)]; exact g1
  have q4 : (mI m 45 2 0).1 2 = t := by rw [← e4]; exact funext fun j => mI_ne (by omega)
  have q3 : (mI m 45 2 0).2.2 1 0 = some 2 := e3
  have q5 : (mI m 45 2 0).2.2 45 0 = some 1 := e5
  have q6 : (mI m 45 2 0).2.2 45 1 = some 46 := e6
  generalize mI m 45 2 0 = m1 at H q1 q4 q3 q5 q6
  have H := f_aload_n H k13_5 (x := 45) rfl
  have H := f_getfield H k13_6 (ci := 2) (f := 0) (v := .ref 1) (by decide +kernel) (show rvl (m1.2.2 45 0) = _ by rw [q5]; rfl)
  obtain ⟨rv, m2, ⟨rfl, e9⟩, H⟩ := f_inv H k13_9 (by decide +kernel) (as := []) (b := 1) (r := []) (by rfl) c_rewind0
  have hm2 : rdS m2 N 0 t := by rw [e9]; exact rdS_w ⟨tpS_r q1 hN q3, by rw [mI_row]; exact q4, q5, q6⟩
  clear e9
  have H := f_iconst H k13_12 (v := nI 0) (by decide)
  have H := f_istore_n H k13_13 (l2 := [(1, .int (nI 0)), (0, .ref 45)]) rfl
  obtain ⟨rv, m6, hP, hx, ho⟩ := key n 0 0 m2 hm2 (Nat.le_refl _) (f_up H (Nat.le_succ _))
  refine ⟨rv, m6, hP, hx, ?_⟩
  rcases ho with ⟨h9, e1, q⟩ | ⟨w, e1, q⟩
  · exact Or.inl ⟨h9, e1, Rok_go hlaw q⟩
  · exact Or.inr ⟨w, e1, Rno_go hlaw q⟩
