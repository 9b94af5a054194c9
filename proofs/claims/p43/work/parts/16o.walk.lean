theorem k78_0 : lkc 0 (kcode 78) = some (.aload_n 1) := by decide +kernel
theorem k78_1 : lkc 1 (kcode 78) = some (.invokevirtual 23) := by decide +kernel
theorem k78_4 : lkc 4 (kcode 78) = some (.aload_n 0) := by decide +kernel
theorem k78_5 : lkc 5 (kcode 78) = some (.iconst 0) := by decide +kernel
theorem k78_6 : lkc 6 (kcode 78) = some (.putfield 28) := by decide +kernel
theorem k78_9 : lkc 9 (kcode 78) = some (.aload_n 1) := by decide +kernel
theorem k78_10 : lkc 10 (kcode 78) = some (.invokevirtual 32) := by decide +kernel
theorem k78_13 : lkc 13 (kcode 78) = some (.istore_n 2) := by decide +kernel
theorem k78_14 : lkc 14 (kcode 78) = some (.iload_n 2) := by decide +kernel
theorem k78_15 : lkc 15 (kcode 78) = some (.bipush 48) := by decide +kernel
theorem k78_17 : lkc 17 (kcode 78) = some (.if_icmp .lt 53) := by decide +kernel
theorem k78_20 : lkc 20 (kcode 78) = some (.iload_n 2) := by decide +kernel
theorem k78_21 : lkc 21 (kcode 78) = some (.bipush 55) := by decide +kernel
theorem k78_23 : lkc 23 (kcode 78) = some (.if_icmp .gt 47) := by decide +kernel
theorem k78_26 : lkc 26 (kcode 78) = some (.aload_n 0) := by decide +kernel
theorem k78_27 : lkc 27 (kcode 78) = some (.getfield 28) := by decide +kernel
theorem k78_30 : lkc 30 (kcode 78) = some (.bipush 16) := by decide +kernel
theorem k78_32 : lkc 32 (kcode 78) = some (.if_icmp .ge 38) := by decide +kernel
theorem k78_35 : lkc 35 (kcode 78) = some (.aload_n 0) := by decide +kernel
theorem k78_36 : lkc 36 (kcode 78) = some (.getfield 20) := by decide +kernel
theorem k78_39 : lkc 39 (kcode 78) = some (.aload_n 0) := by decide +kernel
theorem k78_40 : lkc 40 (kcode 78) = some (.getfield 28) := by decide +kernel
theorem k78_43 : lkc 43 (kcode 78) = some (.iload_n 2) := by decide +kernel
theorem k78_44 : lkc 44 (kcode 78) = some (.bipush 48) := by decide +kernel
theorem k78_46 : lkc 46 (kcode 78) = some (.isub) := by decide +kernel
theorem k78_47 : lkc 47 (kcode 78) = some (.iastore) := by decide +kernel
theorem k78_48 : lkc 48 (kcode 78) = some (.aload_n 0) := by decide +kernel
theorem k78_49 : lkc 49 (kcode 78) = some (.dup) := by decide +kernel
theorem k78_50 : lkc 50 (kcode 78) = some (.getfield 28) := by decide +kernel
theorem k78_53 : lkc 53 (kcode 78) = some (.iconst 1) := by decide +kernel
theorem k78_54 : lkc 54 (kcode 78) = some (.iadd) := by decide +kernel
theorem k78_55 : lkc 55 (kcode 78) = some (.putfield 28) := by decide +kernel
theorem k78_58 : lkc 58 (kcode 78) = some (.aload_n 1) := by decide +kernel
theorem k78_59 : lkc 59 (kcode 78) = some (.invokevirtual 36) := by decide +kernel
theorem k78_62 : lkc 62 (kcode 78) = some (.aload_n 1) := by decide +kernel
theorem k78_63 : lkc 63 (kcode 78) = some (.invokevirtual 32) := by decide +kernel
theorem k78_66 : lkc 66 (kcode 78) = some (.istore_n 2) := by decide +kernel
theorem k78_67 : lkc 67 (kcode 78) = some (.goto (-53)) := by decide +kernel
theorem k78_70 : lkc 70 (kcode 78) = some (.aload_n 0) := by decide +kernel
theorem k78_71 : lkc 71 (kcode 78) = some (.getfield 28) := by decide +kernel
theorem k78_74 : lkc 74 (kcode 78) = some (.ifCond .le 15) := by decide +kernel
theorem k78_77 : lkc 77 (kcode 78) = some (.aload_n 1) := by decide +kernel
theorem k78_78 : lkc 78 (kcode 78) = some (.invokevirtual 32) := by decide +kernel
theorem k78_81 : lkc 81 (kcode 78) = some (.iconst (-1)) := by decide +kernel
theorem k78_82 : lkc 82 (kcode 78) = some (.if_icmp .ne 7) := by decide +kernel
theorem k78_85 : lkc 85 (kcode 78) = some (.iconst (-1)) := by decide +kernel
theorem k78_86 : lkc 86 (kcode 78) = some (.goto 7) := by decide +kernel
theorem k78_89 : lkc 89 (kcode 78) = some (.aload_n 1) := by decide +kernel
theorem k78_90 : lkc 90 (kcode 78) = some (.getfield 39) := by decide +kernel
theorem k78_93 : lkc 93 (kcode 78) = some (.ireturn) := by decide +kernel
/-! forward: walks told as texts: what a text says, the class's reader -/
abbrev isStp (s : Int32) : Prop := 48 ≤ s.toInt ∧ s.toInt ≤ 55
def wkS (N : Nat) (t : Nat → Int32) : Nat → Nat → (Nat → Int32) → Nat → Nat × (Nat → Int32) × Nat
  | 0, n, row, h => (n, row, sk N t h)
  | f + 1, n, row, h => if isStp (atv N t (sk N t h)) then wkS N t f (n + 1) (fun j => if j = n then atv N t (sk N t h) - 48 else row j) (sk N t h + 1) else (n, row, sk N t h)
def wk0 (N : Nat) (t : Nat → Int32) : Nat × (Nat → Int32) × Nat := wkS N t 16 0 (fun _ => 0) 0
def wkV (N : Nat) (t : Nat → Int32) : Int32 := if (wk0 N t).1 ≠ 0 ∧ atv N t (wk0 N t).2.2 = -1 then -1 else nI (wk0 N t).2.2
theorem wkS_go {N f n h p : Nat} {t row : Nat → Int32} (hp : sk N t h = p) (c : isStp (atv N t p)) : wkS N t (f + 1) n row h = wkS N t f (n + 1) (fun j => if j = n then atv N t p - 48 else row j) (p + 1) := by
  subst hp
  exact if_pos c
theorem wkS_no {N f n h p : Nat} {t row : Nat → Int32} (hp : sk N t h = p) (c : ¬ isStp (atv N t p)) : wkS N t f n row h = (n, row, p) := by
  subst hp
  cases f with
  | zero => rfl
  | succ f => exact if_neg c
theorem wkS_0 {N n h p : Nat} {t row : Nat → Int32} (hp : sk N t h = p) : wkS N t 0 n row h = (n, row, p) := by
  subst hp
  rfl
theorem stp_lt {N h : Nat} {t : Nat → Int32} (hd : isStp (atv N t h)) : h < N := by
  by_cases h1 : h < N
  · exact h1
  · unfold atv at hd
    rw [if_neg h1] at hd
    exact absurd hd (by decide)
/-- what the class's reading of a walk's text says -/
def wxO (N : Nat) (t : Nat → Int32) (rv : Option Value) (m' : xM) : Prop := rv = some (.int (wkV N t)) ∧ m'.1 55 3 = nI (wk0 N t).1 ∧ (∀ i, i < (wk0 N t).1 → m'.1 62 i = (wk0 N t).2.1 i) ∧ (wk0 N t).1 ≤ 16 ∧ (wk0 N t).2.2 ≤ N
set_option maxHeartbeats 4000000 in
theorem c_readFromW {m : xM} {N : Nat} {t : Nat → Int32} (q1 : m.1 1 1 = nI N) (hN : N ≤ 240) (ht : m.1 2 = t) (hr : rS m) : fC 78 [.ref 55, .ref 1] m (wxO N t) := by
  refine fC_of (by decide) (fun d n P H => ?_)
  have fin : ∀ k n row p m2 s, n ≤ 16 → tpS m2 N p → sk N t p = p → m2.1 2 = t → m2.1 55 3 = nI n → (∀ i, i < n → m2.1 62 i = row i) → wk0 N t = (n, row, p) → rS m2 → xF 78 (xw d) P k 70 [(2, .int s), (0, .ref 55), (1, .ref 1)] [] m2 → ∃ rv m', P rv m' ∧ wxO N t rv m' := by
    intro k n row p m2 s hn hm2 hsk ht2 h3 hrow hq hr H
    have e2 : m2 = mI m2 1 2 (nI p) := (mI_self hm2.2.1).symm
    have hpN : p ≤ N := hm2.2.2.2.1
    have bad : ¬ (n ≠ 0 ∧ atv N t p = -1) → ∀ k, xF 78 (xw d) P k 89 [(2, .int s), (0, .ref 55), (1, .ref 1)] [] m2 → ∃ rv m', P rv m' ∧ wxO N t rv m' := by
      intro hz k H
      have hA : wkV N t = nI p := by unfold wkV; rw [hq]; exact if_neg hz
      replace H := f_aload_n H k78_89 rfl
      replace H := f_gi H k78_90 (ci := 8) (f := 2) (by decide +kernel) (by decide)
      rw [hm2.2.1] at H
      replace H := f_iret H k78_93
      exact ⟨_, _, H, by rw [hA], by rw [hq]; exact h3, by rw [hq]; exact hrow, by rw [hq]; exact hn, by rw [hq]; exact hpN⟩
    replace H := f_aload_n H k78_70 rfl
    replace H := f_gi H k78_71 (ci := 9) (f := 3) (by decide +kernel) (by decide)
    rw [h3] at H
    have Hbr := f_if_le H k78_74 (t := 89) (by decide)
    clear H
    rcases Hbr with ⟨c, H⟩ | ⟨c, H⟩
    · refine bad (fun z => z.1 ?_) _ H
      rw [Int32.le_iff_toInt_le, nI_toInt (by omega), show (0 : Int32).toInt = 0 by decide] at c
      omega
    · have hn0 : n ≠ 0 := fun z => c (by rw [z]; decide)
      replace H := f_aload_n H k78_77 rfl
      obtain ⟨rv, m3, ⟨rfl, rfl⟩, h9_78⟩ := f_inv H k78_78 (by decide +kernel) (as := []) (b := 1) (r := []) (by rfl) (c_ahead hm2)
      replace H := h9_78
      rw [ht2, hsk, ← e2] at H
      replace H := f_iconst H k78_81 (v := -1) (by decide)
      have Hbr := f_icmp_ne H k78_82 (t := 89) (by decide)
      clear H
      rcases Hbr with ⟨c2, H⟩ | ⟨c2, H⟩
      · exact bad (fun z => c2 z.2) _ H
      · replace H := f_iconst H k78_85 (v := -1) (by decide)
        replace H := f_goto H k78_86 (t := 93) (by decide)
        replace H := f_iret H k78_93
        have c3 : atv N t p = -1 := c2
        have hA : wkV N t = -1 := by unfold wkV; rw [hq]; exact if_pos ⟨hn0, c3⟩
        exact ⟨_, _, H, by rw [hA], by rw [hq]; exact h3, by rw [hq]; exact hrow, by rw [hq]; exact hn, by rw [hq]; exact hpN⟩
  have key : ∀ k n row h p m2, n ≤ 16 → sk N t h = p → tpS m2 N p → sk N t p = p → m2.1 2 = t → rS m2 → m2.1 55 3 = nI n → (∀ i, i < n → m2.1 62 i = row i) → wkS N t (16 - n) n row h = wk0 N t → xF 78 (xw d) P (k + 1) 14 [(2, .int (atv N t p)), (0, .ref 55), (1, .ref 1)] [] m2 → ∃ rv m', P rv m' ∧ wxO N t rv m' := by
    intro k
    induction k with
    | zero => exact fun n row h p m2 _ _ _ _ _ _ _ _ _ H => (xF_0 (f1_iload_n H k78_14 rfl)).elim
    | succ k ih =>
      intro n row h p m2 hn hp hm2 hsk ht2 hr h3 hrow hq H
      replace H := f1_iload_n H k78_14 rfl
      replace H := f_bipush H k78_15 (v := 48) (by decide)
      have Hbr := f_icmp_lt H k78_17 (t := 70) (by decide)
      clear H
      rcases Hbr with ⟨c, H⟩ | ⟨c, H⟩
      · rw [Int32.lt_iff_toInt_lt, show (48 : Int32).toInt = 48 by decide] at c
        exact fin _ n row p m2 _ hn hm2 hsk ht2 h3 hrow (by rw [← hq, wkS_no hp (fun z => by have := z.1; omega)]) hr H
      rw [Int32.lt_iff_toInt_lt, show (48 : Int32).toInt = 48 by decide] at c
      replace H := f_iload_n H k78_20 rfl
      replace H := f_bipush H k78_21 (v := 55) (by decide)
      have Hbr := f_icmp_gt H k78_23 (t := 70) (by decide)
      clear H
      rcases Hbr with ⟨c2, H⟩ | ⟨c2, H⟩
      · rw [Int32.lt_iff_toInt_lt, show (55 : Int32).toInt = 55 by decide] at c2
        exact fin _ n row p m2 _ hn hm2 hsk ht2 h3 hrow (by rw [← hq, wkS_no hp (fun z => by have := z.2; omega)]) hr H
      rw [Int32.lt_iff_toInt_lt, show (55 : Int32).toInt = 55 by decide] at c2
      have hst : isStp (atv N t p) := ⟨by omega, by omega⟩
      have hlt : p < N := stp_lt hst
      replace H := f_aload_n H k78_26 rfl
      replace H := f_gi H k78_27 (ci := 9) (f := 3) (by decide +kernel) (by decide)
      replace H := f_bipush H k78_30 (v := 16) (by decide)
      rw [h3] at H
      have Hbr := f_icmp_ge H k78_32 (t := 70) (by decide)
      clear H
      rcases Hbr with ⟨c3, H⟩ | ⟨c3, H⟩
      · rw [Int32.le_iff_toInt_le, nI_toInt (by omega), show (16 : Int32).toInt = 16 by decide] at c3
        have e16 : n = 16 := by omega
        exact fin _ n row p m2 _ hn hm2 hsk ht2 h3 hrow (by rw [← hq, e16]; exact wkS_0 hp) hr H
      rw [Int32.le_iff_toInt_le, nI_toInt (by omega), show (16 : Int32).toInt = 16 by decide] at c3
      replace H := f_aload_n H k78_35 rfl
      replace H := f_gr H k78_36 (ci := 9) (f := 2) (x := 62) (by decide +kernel) (by decide) (hr 55 2 62 rfl)
      replace H := f_aload_n H k78_39 rfl
      replace H := f_gi H k78_40 (ci := 9) (f := 3) (by decide +kernel) (by decide)
      replace H := f_iload_n H k78_43 rfl
      replace H := f_bipush H k78_44 (v := 48) (by decide)
      replace H := f_isub H k78_46
      have Hob := f_iast H k78_47 (c := 16) (by decide)
      clear H
      obtain ⟨hb47, H⟩ := Hob
      replace H := f_aload_n H k78_48 rfl
      replace H := f_dup H k78_49
      replace H := f_gi H k78_50 (ci := 9) (f := 3) (by decide +kernel) (by decide)
      replace H := f_iconst H k78_53 (v := 1) (by decide)
      replace H := f_iadd H k78_54
      replace H := f_put_i H k78_55 (ci := 9) (f := 3) (by decide +kernel) (by decide)
      replace H := f_aload_n H k78_58 rfl
      obtain ⟨m4, em, H⟩ := f_mem H
      have e43 : m4.1 55 3 = nI (n + 1) := by rw [em, mI_at, mI_ne (by omega), h3, nI_s]
      have e4r : ∀ i, i < n + 1 → m4.1 62 i = (fun j => if j = n then atv N t p - 48 else row j) i := by
        intro i hi
        rw [em, mI_ne (by omega), h3, nI_clamp (by omega)]
        show _ = if i = n then atv N t p - 48 else row i
        by_cases e : i = n
        · rw [if_pos e, e, mI_at]
        · rw [if_neg e, mI_ne (fun z => e z.2)]
          exact hrow i (by omega)
      have e4 : ∀ a i, a < 55 → m4.1 a i = m2.1 a i := fun a i h => by rw [em, mI_ne (by omega), mI_ne (by omega)]
      have hm4 : tpS m4 N p := by
        obtain ⟨q1, q2, q3, q4, q5⟩ := hm2
        exact ⟨by rw [e4 1 1 (by omega)]; exact q1, by rw [e4 1 2 (by omega)]; exact q2, q3, q4, by rw [em]; exact q5⟩
      have ht4 : m4.1 2 = t := by rw [← ht2]; exact funext fun j => e4 2 j (by omega)
      have hr4 : rS m4 := by rw [em]; exact hr
      clear em
      obtain ⟨rv, m5, ⟨rfl, e9⟩, h9_59⟩ := f_inv H k78_59 (by decide +kernel) (as := []) (b := 1) (r := []) (by rfl) (c_step hm4)
      replace H := h9_59
      have hm5 : tpS m5 N (p + 1) := by rw [e9]; exact tpS_h hm4 (by omega)
      have ht5 : m5.1 2 = t := by rw [e9, mI_row]; exact ht4
      have hr5 : rS m5 := by rw [e9]; exact hr4
      have e53 : m5.1 55 3 = nI (n + 1) := by rw [e9, mI_ne (by omega)]; exact e43
      have e5r : ∀ i, i < n + 1 → m5.1 62 i = (fun j => if j = n then atv N t p - 48 else row j) i := fun i hi => by rw [e9, mI_ne (by omega)]; exact e4r i hi
      clear e9
      replace H := f_aload_n H k78_62 rfl
      obtain ⟨rv, m6, ⟨rfl, e9⟩, h9_63⟩ := f_inv H k78_63 (by decide +kernel) (as := []) (b := 1) (r := []) (by rfl) (c_ahead hm5)
      replace H := h9_63
      rw [ht5] at H e9
      have hp6 : sk N t (p + 1) ≤ N := sk_le hm5.2.2.2.1
      have hm6 : tpS m6 N (sk N t (p + 1)) := by rw [e9]; exact tpS_h hm5 hp6
      have ht6 : m6.1 2 = t := by rw [e9, mI_row]; exact ht5
      have hr6 : rS m6 := by rw [e9]; exact hr5
      have e63 : m6.1 55 3 = nI (n + 1) := by rw [e9, mI_ne (by omega)]; exact e53
      have e6r : ∀ i, i < n + 1 → m6.1 62 i = (fun j => if j = n then atv N t p - 48 else row j) i := fun i hi => by rw [e9, mI_ne (by omega)]; exact e5r i hi
      clear e9
      replace H := f_istore_n H k78_66 (l2 := [(2, .int _), (0, .ref 55), (1, .ref 1)]) rfl
      replace H := f_goto H k78_67 (t := 14) (by decide)
      rw [show 16 - n = (16 - (n + 1)) + 1 by omega, wkS_go hp hst] at hq
      exact ih (n + 1) _ (p + 1) _ m6 (by omega) rfl hm6 (sk_sk hm5.2.2.2.1) ht6 hr6 e63 e6r hq H
  replace H := f_aload_n H k78_0 rfl
  obtain ⟨rv, m1, ⟨rfl, e9⟩, h9_1⟩ := f_inv H k78_1 (by decide +kernel) (as := []) (b := 1) (r := []) (by rfl) (c_rewind0)
  replace H := h9_1
  have hm1 : tpS m1 N 0 := by rw [e9]; exact tpS_w (tpS_r q1 hN (hr 1 0 2 rfl))
  have ht1 : m1.1 2 = t := by rw [e9, ← ht]; exact funext fun j => by rw [mI_ne (by omega), mI_ne (by omega)]
  have hr1 : rS m1 := by rw [e9]; exact hr
  clear e9
  replace H := f_aload_n H k78_4 rfl
  replace H := f_iconst H k78_5 (v := 0) (by decide)
  replace H := f_put_i H k78_6 (ci := 9) (f := 3) (by decide +kernel) (by decide)
  replace H := f_aload_n H k78_9 rfl
  obtain ⟨m2, em, H⟩ := f_mem H
  have hm2 : tpS m2 N 0 := by
    obtain ⟨q1, q2, q3, q4, q5⟩ := hm1
    exact ⟨by rw [em, mI_ne (by omega)]; exact q1, by rw [em, mI_ne (by omega)]; exact q2, q3, q4, by rw [em]; exact q5⟩
  have ht2 : m2.1 2 = t := by rw [em, ← ht1]; exact funext fun j => mI_ne (by omega)
  have hr2 : rS m2 := by rw [em]; exact hr1
  have e23 : m2.1 55 3 = nI 0 := by rw [em, mI_at]; rfl
  clear em
  obtain ⟨rv, m3, ⟨rfl, e9⟩, h9_10⟩ := f_inv H k78_10 (by decide +kernel) (as := []) (b := 1) (r := []) (by rfl) (c_ahead hm2)
  replace H := h9_10
  rw [ht2] at H e9
  have hp3 : sk N t 0 ≤ N := sk_le (Nat.zero_le _)
  have hm3 : tpS m3 N (sk N t 0) := by rw [e9]; exact tpS_h hm2 hp3
  have ht3 : m3.1 2 = t := by rw [e9, mI_row]; exact ht2
  have hr3 : rS m3 := by rw [e9]; exact hr2
  have e33 : m3.1 55 3 = nI 0 := by rw [e9, mI_ne (by omega)]; exact e23
  clear e9
  replace H := f_istore_n H k78_13 (l2 := [(2, .int _), (0, .ref 55), (1, .ref 1)]) rfl
  exact key n 0 (fun _ => 0) 0 _ m3 (by omega) rfl hm3 (sk_sk (Nat.zero_le _)) ht3 hr3 e33 (fun i hi => absurd hi (Nat.not_lt_zero _)) rfl (f_up H (Nat.le_succ _))
theorem k189_0 : lkc 0 (kcode 189) = some (.aload_n 0) := by decide +kernel
theorem k189_1 : lkc 1 (kcode 189) = some (.aload_n 0) := by decide +kernel
theorem k189_2 : lkc 2 (kcode 189) = some (.getfield 9) := by decide +kernel
theorem k189_5 : lkc 5 (kcode 189) = some (.iconst 0) := by decide +kernel
theorem k189_6 : lkc 6 (kcode 189) = some (.aload_n 0) := by decide +kernel
theorem k189_7 : lkc 7 (kcode 189) = some (.getfield 103) := by decide +kernel
theorem k189_10 : lkc 10 (kcode 189) = some (.invokevirtual 201) := by decide +kernel
theorem k189_13 : lkc 13 (kcode 189) = some (.iconst 0) := by decide +kernel
theorem k189_14 : lkc 14 (kcode 189) = some (.istore_n 1) := by decide +kernel
theorem k189_15 : lkc 15 (kcode 189) = some (.aload_n 0) := by decide +kernel
theorem k189_16 : lkc 16 (kcode 189) = some (.invokevirtual 132) := by decide +kernel
theorem k189_19 : lkc 19 (kcode 189) = some (.pop) := by decide +kernel
theorem k189_20 : lkc 20 (kcode 189) = some (.aload_n 0) := by decide +kernel
theorem k189_21 : lkc 21 (kcode 189) = some (.invokevirtual 162) := by decide +kernel
theorem k189_24 : lkc 24 (kcode 189) = some (.ifCond .eq 55) := by decide +kernel
theorem k189_27 : lkc 27 (kcode 189) = some (.aload_n 0) := by decide +kernel
theorem k189_28 : lkc 28 (kcode 189) = some (.invokevirtual 208) := by decide +kernel
theorem k189_31 : lkc 31 (kcode 189) = some (.bipush 56) := by decide +kernel
theorem k189_33 : lkc 33 (kcode 189) = some (.if_icmp .ge 46) := by decide +kernel
theorem k189_36 : lkc 36 (kcode 189) = some (.iload_n 1) := by decide +kernel
theorem k189_37 : lkc 37 (kcode 189) = some (.bipush 16) := by decide +kernel
theorem k189_39 : lkc 39 (kcode 189) = some (.if_icmp .ge 40) := by decide +kernel
theorem k189_42 : lkc 42 (kcode 189) = some (.aload_n 0) := by decide +kernel
theorem k189_43 : lkc 43 (kcode 189) = some (.getfield 52) := by decide +kernel
theorem k189_46 : lkc 46 (kcode 189) = some (.bipush 64) := by decide +kernel
theorem k189_48 : lkc 48 (kcode 189) = some (.iload_n 1) := by decide +kernel
theorem k189_49 : lkc 49 (kcode 189) = some (.iadd) := by decide +kernel
theorem k189_50 : lkc 50 (kcode 189) = some (.aload_n 0) := by decide +kernel
theorem k189_51 : lkc 51 (kcode 189) = some (.invokevirtual 208) := by decide +kernel
theorem k189_54 : lkc 54 (kcode 189) = some (.bipush 48) := by decide +kernel
theorem k189_56 : lkc 56 (kcode 189) = some (.isub) := by decide +kernel
theorem k189_57 : lkc 57 (kcode 189) = some (.iastore) := by decide +kernel
theorem k189_58 : lkc 58 (kcode 189) = some (.iinc 1 1) := by decide +kernel
theorem k189_61 : lkc 61 (kcode 189) = some (.aload_n 0) := by decide +kernel
theorem k189_62 : lkc 62 (kcode 189) = some (.dup) := by decide +kernel
theorem k189_63 : lkc 63 (kcode 189) = some (.getfield 113) := by decide +kernel
theorem k189_66 : lkc 66 (kcode 189) = some (.iconst 1) := by decide +kernel
theorem k189_67 : lkc 67 (kcode 189) = some (.iadd) := by decide +kernel
theorem k189_68 : lkc 68 (kcode 189) = some (.putfield 113) := by decide +kernel
theorem k189_71 : lkc 71 (kcode 189) = some (.aload_n 0) := by decide +kernel
theorem k189_72 : lkc 72 (kcode 189) = some (.invokevirtual 132) := by decide +kernel
theorem k189_75 : lkc 75 (kcode 189) = some (.pop) := by decide +kernel
theorem k189_76 : lkc 76 (kcode 189) = some (.goto (-56)) := by decide +kernel
theorem k189_79 : lkc 79 (kcode 189) = some (.aload_n 0) := by decide +kernel
theorem k189_80 : lkc 80 (kcode 189) = some (.getfield 55) := by decide +kernel
theorem k189_83 : lkc 83 (kcode 189) = some (.iconst 4) := by decide +kernel
theorem k189_84 : lkc 84 (kcode 189) = some (.iload_n 1) := by decide +kernel
theorem k189_85 : lkc 85 (kcode 189) = some (.iastore) := by decide +kernel
theorem k189_86 : lkc 86 (kcode 189) = some (.iload_n 1) := by decide +kernel
theorem k189_87 : lkc 87 (kcode 189) = some (.ifCond .eq 11) := by decide +kernel
theorem k189_90 : lkc 90 (kcode 189) = some (.aload_n 0) := by decide +kernel
theorem k189_91 : lkc 91 (kcode 189) = some (.invokevirtual 132) := by decide +kernel
theorem k189_94 : lkc 94 (kcode 189) = some (.iconst (-1)) := by decide +kernel
theorem k189_95 : lkc 95 (kcode 189) = some (.if_icmp .eq 8) := by decide +kernel
theorem k189_98 : lkc 98 (kcode 189) = some (.aload_n 0) := by decide +kernel
theorem k189_99 : lkc 99 (kcode 189) = some (.invokevirtual 128) := by decide +kernel
theorem k189_102 : lkc 102 (kcode 189) = some (.pop) := by decide +kernel
theorem k189_103 : lkc 103 (kcode 189) = some (.return_) := by decide +kernel
/-! forward: the reference's reader of a walk's text -/
/-- what the reference's reading of a walk's text says -/
def mwO (N : Nat) (u : Nat → Int32) (m' : xM) : Prop := m'.1 314 11 = wkV N (tt u) ∧ m'.1 325 4 = nI (wk0 N (tt u)).1 ∧ (∀ i, i < (wk0 N (tt u)).1 → m'.1 324 (64 + i) = (wk0 N (tt u)).2.1 i)
theorem mQ_c {m : xM} {N h a i : Nat} {v : Int32} {u : Nat → Int32} (hm : mQ m N h u) (ha : a ≠ 314 ∧ a ≠ 315) : mQ (mI m a i v) N h u := mQ_ag hm ⟨fun j hj => mI_ne (by omega), funext fun j => mI_ne (by omega), rfl⟩ (by rw [mI_ne (by omega)]; exact hm.2.2.2.2.1) (by rw [mI_ne (by omega)]; exact hm.2.2.2.2.2.1) hm.2.2.2.2.2.2.2.2.2
set_option maxHeartbeats 4000000 in
theorem c_readWalk {m : xM} {N : Nat} {u : Nat → Int32} (hr : rS m) (hu : m.1 315 = u) (hb : ∀ i, byR (u i)) (hN : N ≤ 240) (hl : m.1 314 6 = nI N) : fC 189 [.ref 314] m (fun rv m' => rv = none ∧ mwO N u m') := by
  refine fC_of (by decide) (fun d n P H => ?_)
  have fin : ∀ k n row p m2, n ≤ 16 → mQ m2 N p u → sk N (tt u) p = p → (∀ i, i < n → m2.1 324 (64 + i) = row i) → wk0 N (tt u) = (n, row, p) → xF 189 (xw d) P k 79 [(1, .int (nI n)), (0, .ref 314)] [] m2 → ∃ rv m', P rv m' ∧ rv = none ∧ mwO N u m' := by
    intro k n row p m2 hn hm2 hsk hrow hq H
    have hr := hm2.1
    replace H := f_aload_n H k189_79 rfl
    replace H := f_gr H k189_80 (ci := 12) (f := 24) (x := 325) (by decide +kernel) (by decide) (hr 314 24 325 rfl)
    replace H := f_iconst H k189_83 (v := 4) (by decide)
    replace H := f_iload_n H k189_84 rfl
    have Hob := f_iast H k189_85 (c := 5) (by decide)
    clear H
    obtain ⟨hb85, H⟩ := Hob
    replace H := f_iload_n H k189_86 rfl
    rw [show (4 : Int32).toNatClampNeg = 4 by decide] at H
    have hm3 := mQ_c (a := 325) (i := 4) (v := nI n) hm2 (by omega)
    have hrow3 : ∀ i, i < n → (mI m2 325 4 (nI n)).1 324 (64 + i) = row i := fun i hi => by rw [mI_ne (by omega)]; exact hrow i hi
    have h43 : (mI m2 325 4 (nI n)).1 325 4 = nI n := mI_at
    generalize mI m2 325 4 (nI n) = m3 at *
    have hr := hm3.1
    have bad : ¬ (n ≠ 0 ∧ atv N (tt u) p = -1) → ∀ k, xF 189 (xw d) P k 98 [(1, .int (nI n)), (0, .ref 314)] [] m3 → ∃ rv m', P rv m' ∧ rv = none ∧ mwO N u m' := by
      intro hz k H
      have hA : wkV N (tt u) = nI p := by unfold wkV; rw [hq]; exact if_neg hz
      replace H := f_aload_n H k189_98 rfl
      obtain ⟨rv, m', ⟨rfl, rfl⟩, h9_99⟩ := f_inv H k189_99 (by decide +kernel) (as := []) (b := 314) (r := []) (by rfl) (c_mfails hm3.2.2.2.2.2.1 hm3.2.2.2.2.1)
      replace H := h9_99
      replace H := f_pop H k189_102
      replace H := f_ret H k189_103
      exact ⟨_, _, H, rfl, by rw [mI_at, hA], by rw [mI_ne (by omega), hq]; exact h43, by rw [hq]; exact fun i hi => by rw [mI_ne (by omega)]; exact hrow3 i hi⟩
    have Hbr := f_if_eq H k189_87 (t := 98) (by decide)
    clear H
    rcases Hbr with ⟨c, H⟩ | ⟨c, H⟩
    · refine bad (fun z => z.1 ?_) _ H
      have := congrArg Int32.toInt c
      rw [nI_toInt (by omega), show (0 : Int32).toInt = 0 by decide] at this
      omega
    · have hn0 : n ≠ 0 := fun z => c (by rw [z]; decide)
      have e3 : m3 = mI m3 314 10 (nI p) := (mI_self hm3.2.2.2.2.1).symm
      replace H := f_aload_n H k189_90 rfl
      obtain ⟨rv, m4, ⟨rfl, rfl⟩, h9_91⟩ := f_inv H k189_91 (by decide +kernel) (as := []) (b := 314) (r := []) (by rfl) (c_lookQ hm3)
      replace H := h9_91
      rw [hsk, ← e3] at H
      replace H := f_iconst H k189_94 (v := -1) (by decide)
      have Hbr := f_icmp_eq H k189_95 (t := 103) (by decide)
      clear H
      rcases Hbr with ⟨c2, H⟩ | ⟨c2, H⟩
      · have hA : wkV N (tt u) = -1 := by unfold wkV; rw [hq]; exact if_pos ⟨hn0, c2⟩
        replace H := f_ret H k189_103
        exact ⟨_, _, H, rfl, by rw [hA]; exact hm3.2.2.2.2.2.1, by rw [hq]; exact h43, by rw [hq]; exact hrow3⟩
      · exact bad (fun z => c2 z.2) _ H
  have key : ∀ k n row h p m2, n ≤ 16 → sk N (tt u) h = p → mQ m2 N p u → sk N (tt u) p = p → (∀ i, i < n → m2.1 324 (64 + i) = row i) → wkS N (tt u) (16 - n) n row h = wk0 N (tt u) → xF 189 (xw d) P (k + 1) 20 [(1, .int (nI n)), (0, .ref 314)] [] m2 → ∃ rv m', P rv m' ∧ rv = none ∧ mwO N u m' := by
    intro k
    induction k with
    | zero => exact fun n row h p m2 _ _ _ _ _ _ H => (xF_0 (f1_aload_n H k189_20 rfl)).elim
    | succ k ih =>
      intro n row h p m2 hn hp hm2 hsk hrow hq H
      have hr := hm2.1
      have hpN : p ≤ N := hm2.2.2.2.2.2.2.2.2.2
      replace H := f1_aload_n H k189_20 rfl
      obtain ⟨rv, m3, ⟨hz, e3⟩, h9_21⟩ := f_inv H k189_21 (by decide +kernel) (as := []) (b := 314) (r := []) (by rfl) (c_digQ hm2)
      replace H := h9_21
      rw [e3] at H
      clear e3
      rcases hz with ⟨hz, rfl⟩ | ⟨hz, rfl⟩
      · replace H := f_if_eq_f H k189_24 (by decide)
        replace H := f_aload_n H k189_27 rfl
        obtain ⟨rv, m3, ⟨rfl, e3⟩, h9_28⟩ := f_inv H k189_28 (by decide +kernel) (as := []) (b := 314) (r := []) (by rfl) (c_here hm2)
        replace H := h9_28
        rw [← e3] at H
        clear e3
        replace H := f_bipush H k189_31 (v := 56) (by decide)
        have Hbr := f_icmp_ge H k189_33 (t := 79) (by decide)
        clear H
        rcases Hbr with ⟨c2, H⟩ | ⟨c2, H⟩
        · rw [Int32.le_iff_toInt_le, show (56 : Int32).toInt = 56 by decide] at c2
          exact fin _ n row p m2 hn hm2 hsk hrow (by rw [← hq, wkS_no hp (fun z => by have := z.2; omega)]) H
        rw [Int32.le_iff_toInt_le, show (56 : Int32).toInt = 56 by decide] at c2
        have hst : isStp (atv N (tt u) p) := ⟨hz.1, by omega⟩
        have hlt : p < N := stp_lt hst
        replace H := f_iload_n H k189_36 rfl
        replace H := f_bipush H k189_37 (v := 16) (by decide)
        have Hbr := f_icmp_ge H k189_39 (t := 79) (by decide)
        clear H
        rcases Hbr with ⟨c3, H⟩ | ⟨c3, H⟩
        · rw [Int32.le_iff_toInt_le, nI_toInt (by omega), show (16 : Int32).toInt = 16 by decide] at c3
          have e16 : n = 16 := by omega
          exact fin _ n row p m2 hn hm2 hsk hrow (by rw [← hq, e16]; exact wkS_0 hp) H
        rw [Int32.le_iff_toInt_le, nI_toInt (by omega), show (16 : Int32).toInt = 16 by decide] at c3
        replace H := f_aload_n H k189_42 rfl
        replace H := f_gr H k189_43 (ci := 12) (f := 23) (x := 324) (by decide +kernel) (by decide) (hr 314 23 324 rfl)
        replace H := f_bipush H k189_46 (v := 64) (by decide)
        replace H := f_iload_n H k189_48 rfl
        replace H := f_iadd H k189_49
        replace H := f_aload_n H k189_50 rfl
        obtain ⟨rv, m3, ⟨rfl, e3⟩, h9_51⟩ := f_inv H k189_51 (by decide +kernel) (as := []) (b := 314) (r := [.int _, .ref 324]) (by rfl) (c_here hm2)
        replace H := h9_51
        rw [← e3] at H
        clear e3
        replace H := f_bipush H k189_54 (v := 48) (by decide)
        replace H := f_isub H k189_56
        have Hob := f_iast H k189_57 (c := 80) (by decide)
        clear H
        obtain ⟨hb57, H⟩ := Hob
        rw [show (64 : Int32) + nI n = nI (64 + n) from r_ad 64 n, nI_clamp (by omega)] at H
        obtain ⟨m4, em, H⟩ := f_mem H
        have hm4 : mQ m4 N p u := by rw [em]; exact mQ_c hm2 (by omega)
        have e4r : ∀ i, i < n + 1 → m4.1 324 (64 + i) = (fun j => if j = n then atv N (tt u) p - 48 else row j) i := by
          intro i hi
          show _ = if i = n then atv N (tt u) p - 48 else row i
          by_cases e : i = n
          · rw [if_pos e, e, em, mI_at]
          · rw [if_neg e, em, mI_ne (by omega)]
            exact hrow i (by omega)
        clear em
        have hr := hm4.1
        replace H := f_iinc H k189_58 rfl (l2 := [(1, .int (nI n + 1)), (0, .ref 314)]) rfl
        replace H := f_aload_n H k189_61 rfl
        replace H := f_dup H k189_62
        replace H := f_gi H k189_63 (ci := 12) (f := 10) (by decide +kernel) (by decide)
        replace H := f_iconst H k189_66 (v := 1) (by decide)
        replace H := f_iadd H k189_67
        replace H := f_put_i H k189_68 (ci := 12) (f := 10) (by decide +kernel) (by decide)
        replace H := f_aload_n H k189_71 rfl
        rw [hm4.2.2.2.2.1, nI_s, nI_s] at H
        have hm5 := mQ_h hm4 (h2 := p + 1) (by omega)
        have e5r : ∀ i, i < n + 1 → (mI m4 314 10 (nI (p + 1))).1 324 (64 + i) = (fun j => if j = n then atv N (tt u) p - 48 else row j) i := fun i hi => by rw [mI_ne (by omega)]; exact e4r i hi
        generalize mI m4 314 10 (nI (p + 1)) = m5 at *
        obtain ⟨rv, m6, ⟨rfl, rfl⟩, h9_72⟩ := f_inv H k189_72 (by decide +kernel) (as := []) (b := 314) (r := []) (by rfl) (c_lookQ hm5)
        replace H := h9_72
        have hp6 : sk N (tt u) (p + 1) ≤ N := sk_le (by omega)
        have hm6 := mQ_h hm5 hp6
        have e6r : ∀ i, i < n + 1 → (mI m5 314 10 (nI (sk N (tt u) (p + 1)))).1 324 (64 + i) = (fun j => if j = n then atv N (tt u) p - 48 else row j) i := fun i hi => by rw [mI_ne (by omega)]; exact e5r i hi
        replace H := f_pop H k189_75
        replace H := f_goto H k189_76 (t := 20) (by decide)
        rw [show 16 - n = (16 - (n + 1)) + 1 by omega, wkS_go hp hst] at hq
        exact ih (n + 1) _ (p + 1) _ _ (by omega) rfl hm6 (sk_sk (by omega)) e6r hq H
      · replace H := f_if_eq_t H k189_24 rfl (t := 79) (by decide)
        exact fin _ n row p m2 hn hm2 hsk hrow (by rw [← hq, wkS_no hp (fun z => hz ⟨z.1, by have := z.2; omega⟩)]) H
  replace H := f_aload_n H k189_0 rfl
  replace H := f_aload_n H k189_1 rfl
  replace H := f_gr H k189_2 (ci := 12) (f := 1) (x := 315) (by decide +kernel) (by decide) (hr 314 1 315 rfl)
  replace H := f_iconst H k189_5 (v := 0) (by decide)
  replace H := f_aload_n H k189_6 rfl
  replace H := f_gi H k189_7 (ci := 12) (f := 6) (by decide +kernel) (by decide)
  rw [hl] at H
  obtain ⟨rv, m1, ⟨rfl, hm1, g1⟩, h9_10⟩ := f_inv H k189_10 (by decide +kernel) (as := [.ref 315, .int _, .int _]) (b := 314) (r := []) (by rfl) (c_startsQ hr hu hb hN)
  replace H := h9_10
  have hr := hm1.1
  replace H := f_iconst H k189_13 (v := 0) (by decide)
  replace H := f_istore_n H k189_14 (l2 := [(1, .int 0), (0, .ref 314)]) rfl
  replace H := f_aload_n H k189_15 rfl
  obtain ⟨rv, m2, ⟨rfl, rfl⟩, h9_16⟩ := f_inv H k189_16 (by decide +kernel) (as := []) (b := 314) (r := []) (by rfl) (c_lookQ hm1)
  replace H := h9_16
  have hp2 : sk N (tt u) 0 ≤ N := sk_le (Nat.zero_le _)
  have hm2 := mQ_h hm1 hp2
  replace H := f_pop H k189_19
  exact key n 0 (fun _ => 0) 0 _ _ (by omega) rfl hm2 (sk_sk (Nat.zero_le _)) (fun i hi => absurd hi (Nat.not_lt_zero _)) rfl (f_up H (Nat.le_succ _))
/-! a call that ends at some depth ends alike at any greater one; a contract as a forward saying -/
section MONO
variable {k : Nat} {ca ca2 : Nat → List Value → xM → (Option Value → xM → Prop) → Prop} {kk kk2 : Nat → List (Nat × Value) → List Value → xM → Prop} {Q : Option Value → xM → Prop}
set_option maxHeartbeats 8000000 in
theorem xi_mo (hcc : ∀ (j : Nat) (as : List Value) (m : xM) (f g : Option Value → xM → Prop), (∀ rv m', f rv m' → g rv m') → ca j as m f → ca2 j as m g) (hk : ∀ pc l st m, kk pc l st m → kk2 pc l st m) (i : Instr) (pc : Nat) (l : List (Nat × Value)) (st : List Value) (m : xM) (h : xi k ca kk Q i pc l st m) : xi k ca2 kk2 Q i pc l st m := by
  cases i
  case iload_n n =>
    simp only [xi] at h ⊢
    generalize lkl n l = z at h ⊢
    rcases z with _ | v
    · exact h.elim
    · cases v <;> first | exact h.elim | exact hk _ _ _ _ h
  case iload n =>
    simp only [xi] at h ⊢
    generalize lkl n l = z at h ⊢
    rcases z with _ | v
    · exact h.elim
    · cases v <;> first | exact h.elim | exact hk _ _ _ _ h
  case aload_n n =>
    simp only [xi] at h ⊢
    generalize lkl n l = z at h ⊢
    rcases z with _ | v
    · exact h.elim
    · cases v <;> first | exact h.elim | exact hk _ _ _ _ h
  case aload n =>
    simp only [xi] at h ⊢
    generalize lkl n l = z at h ⊢
    rcases z with _ | v
    · exact h.elim
    · cases v <;> first | exact h.elim | exact hk _ _ _ _ h
  case lload_n n =>
    simp only [xi] at h ⊢
    generalize lkl n l = z at h ⊢
    rcases z with _ | v
    · exact h.elim
    · cases v <;> first | exact h.elim | exact hk _ _ _ _ h
  case lload n =>
    simp only [xi] at h ⊢
    generalize lkl n l = z at h ⊢
    rcases z with _ | v
    · exact h.elim
    · cases v <;> first | exact h.elim | exact hk _ _ _ _ h
  case istore_n n =>
    simp only [xi] at h ⊢
    exact ⟨h.1, pI_i (fun _ _ => hk _ _ _ _) h.2⟩
  case istore n =>
    simp only [xi] at h ⊢
    exact ⟨h.1, pI_i (fun _ _ => hk _ _ _ _) h.2⟩
  case astore_n n =>
    simp only [xi] at h ⊢
    exact ⟨h.1, pR_i (fun _ _ => hk _ _ _ _) h.2⟩
  case astore n =>
    simp only [xi] at h ⊢
    exact ⟨h.1, pR_i (fun _ _ => hk _ _ _ _) h.2⟩
  case lstore_n n =>
    simp only [xi] at h ⊢
    exact ⟨h.1, pL_i (fun _ _ => hk _ _ _ _) h.2⟩
  case lstore n =>
    simp only [xi] at h ⊢
    exact ⟨h.1, pL_i (fun _ _ => hk _ _ _ _) h.2⟩
  case iinc n d =>
    simp only [xi] at h ⊢
    refine ⟨h.1, ?_⟩
    replace h := h.2
    generalize lkl n l = z at h ⊢
    rcases z with _ | v
    · exact h.elim
    · cases v <;> first | exact h.elim | exact hk _ _ _ _ h
  case ifCond c o => cases c <;> simp only [xi] at h ⊢ <;> refine pI_i (fun _ _ => bo_i (im_i (hk _ _ _ _)) (im_i (hk _ _ _ _))) h
  case if_icmp c o => cases c <;> simp only [xi] at h ⊢ <;> refine pI_i (fun _ _ => pI_i (fun _ _ => bo_i (im_i (hk _ _ _ _)) (im_i (hk _ _ _ _)))) h
  case tableswitch d lo hi os =>
    simp only [xi] at h ⊢
    exact pI_i (fun _ _ => bo_i (im_i (hk _ _ _ _)) (im_i (im_i (fun ⟨o, h1, h2⟩ => ⟨o, h1, hk _ _ _ _ h2⟩)))) h
  case ldc n => simp only [xi] at h ⊢; generalize kLd (kcl k) n = z at h ⊢; rcases z with _ | v; exact h; cases v <;> first | exact h | exact hk _ _ _ _ h
  case ldc_w n => simp only [xi] at h ⊢; generalize kLd (kcl k) n = z at h ⊢; rcases z with _ | v; exact h; cases v <;> first | exact h | exact hk _ _ _ _ h
  case ldc2_w n => simp only [xi] at h ⊢; generalize kLd (kcl k) n = z at h ⊢; rcases z with _ | v; exact h; cases v <;> first | exact h | exact hk _ _ _ _ h
  case getstatic n => simp only [xi] at h ⊢; generalize kSt (kcl k) n = z at h ⊢; rcases z with _ | v; exact h; exact hk _ _ _ _ h
  case getfield n =>
    simp only [xi] at h ⊢
    refine pR_i (fun a r h => ?_) h
    generalize kFd (kcl k) n = z at h ⊢
    rcases z with _ | ⟨ci, f⟩
    · exact h
    · exact an_i (hk _ _ _ _) h
  case putfield n =>
    simp only [xi] at h ⊢
    generalize kFd (kcl k) n = z at h ⊢
    rcases z with _ | ⟨ci, f⟩
    · exact h
    · refine an_i (fun h => ?_) h
      generalize fk ci f = y at h ⊢
      match y, h with
      | 0, h => exact pI_i (fun _ _ => pR_i (fun _ _ => an_i (hk _ _ _ _))) h
      | 1, h => exact pI_i (fun _ _ => pR_i (fun _ _ => an_i (an_i (hk _ _ _ _)))) h
      | 2, h => exact pL_i (fun _ _ => pR_i (fun _ _ => an_i (hk _ _ _ _))) h
      | 3, h => exact pR_i (fun _ _ => pR_i (fun _ _ => an_i (hk _ _ _ _))) h
  case arraylength =>
    simp only [xi] at h ⊢
    refine pR_i (fun a r h => ?_) h
    generalize lay a = z at h ⊢
    match z, h with
    | (0, _, n), h => exact hk _ _ _ _ h
    | (4, _, n), h => exact hk _ _ _ _ h
  case iaload =>
    simp only [xi] at h ⊢
    refine pI_i (fun i r => pR_i (fun a r h => ?_)) h
    generalize lay a = z at h ⊢
    match z, h with
    | (0, 0, n), h => exact an_i (hk _ _ _ _) h
    | (4, 0, n), h => exact an_i (hk _ _ _ _) h
  case baload =>
    simp only [xi] at h ⊢
    refine pI_i (fun i r => pR_i (fun a r h => ?_)) h
    generalize lay a = z at h ⊢
    match z, h with
    | (0, 1, n), h => exact an_i (hk _ _ _ _) h
    | (0, 2, n), h => exact an_i (hk _ _ _ _) h
  case caload =>
    simp only [xi] at h ⊢
    refine pI_i (fun i r => pR_i (fun a r h => ?_)) h
    generalize lay a = z at h ⊢
    match z, h with
    | (4, 3, n), h => exact an_i (hk _ _ _ _) h
  case laload =>
    simp only [xi] at h ⊢
    refine pI_i (fun i r => pR_i (fun a r h => ?_)) h
    generalize lay a = z at h ⊢
    match z, h with
    | (1, _, n), h => exact an_i (hk _ _ _ _) h
  case aaload =>
    simp only [xi] at h ⊢
    refine pI_i (fun i r => pR_i (fun a r h => ?_)) h
    generalize lay a = z at h ⊢
    match z, h with
    | (2, _, n), h => exact an_i (hk _ _ _ _) h
  case iastore =>
    simp only [xi] at h ⊢
    refine pI_i (fun x r => pI_i (fun i r => pR_i (fun a r h => ?_))) h
    generalize lay a = z at h ⊢
    match z, h with
    | (0, 0, n), h => exact an_i (hk _ _ _ _) h
  case bastore =>
    simp only [xi] at h ⊢
    refine pI_i (fun x r => pI_i (fun i r => pR_i (fun a r h => ?_))) h
    generalize lay a = z at h ⊢
    match z, h with
    | (0, 1, n), h => exact an_i (hk _ _ _ _) h
    | (0, 2, n), h => exact an_i (hk _ _ _ _) h
  case lastore =>
    simp only [xi] at h ⊢
    refine pL_i (fun x r => pI_i (fun i r => pR_i (fun a r h => ?_))) h
    generalize lay a = z at h ⊢
    match z, h with
    | (1, _, n), h => exact an_i (hk _ _ _ _) h
  case invokevirtual n =>
    simp only [xi] at h ⊢
    generalize kCl (kcl k) n = z at h ⊢
    match z, h with
    | some (1, j), h =>
      replace h : (match pops (knp j) st with
        | some (as, .ref b :: r) => lay b = (3, kcl j, kNf (kcl j)) ∧ (r.map fun v => v.category).sum ≤ 8 ∧ kmc j = 0 ∧ kms j = 0 ∧ ca j (.ref b :: as) m (fun rv m' => kk (pc + 3) l (rv.toList ++ r) m')
        | _ => False) := h
      show (match pops (knp j) st with
        | some (as, .ref b :: r) => lay b = (3, kcl j, kNf (kcl j)) ∧ (r.map fun v => v.category).sum ≤ 8 ∧ kmc j = 0 ∧ kms j = 0 ∧ ca2 j (.ref b :: as) m (fun rv m' => kk2 (pc + 3) l (rv.toList ++ r) m')
        | _ => False)
      generalize pops (knp j) st = y at h ⊢
      rcases y with _ | ⟨as, r⟩
      · exact h.elim
      · rcases r with _ | ⟨v, r⟩
        · exact h.elim
        · cases v <;> first | exact h.elim | exact an_i (an_i (an_i (an_i (hcc _ _ _ _ _ (fun _ _ => hk _ _ _ _))))) h
    | some (3, j), h =>
      replace h : (match pops (knp j) st with
        | some (as, .ref b :: r) => (lay b).1 = 5 ∧ (r.map fun v => v.category).sum ≤ 8 ∧ ca j (.ref b :: as) m (fun rv m' => kk (pc + 3) l (rv.toList ++ r) m')
        | _ => False) := h
      show (match pops (knp j) st with
        | some (as, .ref b :: r) => (lay b).1 = 5 ∧ (r.map fun v => v.category).sum ≤ 8 ∧ ca2 j (.ref b :: as) m (fun rv m' => kk2 (pc + 3) l (rv.toList ++ r) m')
        | _ => False)
      generalize pops (knp j) st = y at h ⊢
      rcases y with _ | ⟨as, r⟩
      · exact h.elim
      · rcases r with _ | ⟨v, r⟩
        · exact h.elim
        · cases v <;> first | exact h.elim | exact an_i (an_i (hcc _ _ _ _ _ (fun _ _ => hk _ _ _ _))) h
  case invokestatic n =>
    simp only [xi] at h ⊢
    generalize kCl (kcl k) n = z at h ⊢
    match z, h with
    | some (2, j), h =>
      replace h : (match pops (knp j) st with
        | some (as, r) => (r.map fun v => v.category).sum ≤ 8 ∧ kmc j = 0 ∧ kms j = 0 ∧ ca j as m (fun rv m' => kk (pc + 3) l (rv.toList ++ r) m')
        | none => False) := h
      show (match pops (knp j) st with
        | some (as, r) => (r.map fun v => v.category).sum ≤ 8 ∧ kmc j = 0 ∧ kms j = 0 ∧ ca2 j as m (fun rv m' => kk2 (pc + 3) l (rv.toList ++ r) m')
        | none => False)
      generalize pops (knp j) st = y at h ⊢
      rcases y with _ | ⟨as, r⟩
      · exact h.elim
      · exact an_i (an_i (an_i (hcc _ _ _ _ _ (fun _ _ => hk _ _ _ _)))) h
    | some (5, _), h =>
      try dsimp only at h ⊢
      refine pI_i (fun n r => pI_i (fun dp r => pR_i (fun b r => pI_i (fun sp r => pR_i (fun a r => an_i (an_i (an_i (an_i (fun h => ?_))))))))) h
      generalize lay b = z at h ⊢
      match z, h with
      | (0, 0, nb), h =>
        refine an_i (fun h => ?_) h
        generalize lay a = y at h ⊢
        match y, h with
        | (0, 0, na), h => exact an_i (hk _ _ _ _) h
        | (4, 0, na), h => exact an_i (hk _ _ _ _) h
  all_goals simp only [xi] at h ⊢
  all_goals first
    | exact h
    | exact hk _ _ _ _ h
    | exact pI_i (fun _ _ => hk _ _ _ _) h
    | exact pI_i (fun _ _ => pI_i (fun _ _ => hk _ _ _ _)) h
    | exact pI_i (fun _ _ => pI_i (fun _ _ => an_i (hk _ _ _ _))) h
    | exact pL_i (fun _ _ => hk _ _ _ _) h
    | exact pL_i (fun _ _ => pL_i (fun _ _ => hk _ _ _ _)) h
    | exact pL_i (fun _ _ => pL_i (fun _ _ => an_i (hk _ _ _ _))) h
    | exact pI_i (fun _ _ => pL_i (fun _ _ => hk _ _ _ _)) h
    | exact pV_i (fun _ _ => an_i (hk _ _ _ _)) h
    | exact pV_i (fun _ _ => pV_i (fun _ _ => an_i (an_i (hk _ _ _ _)))) h
    | exact pR_i (fun _ _ => hk _ _ _ _) h
end MONO
theorem xe_mo {k : Nat} {ca ca2 : Nat → List Value → xM → (Option Value → xM → Prop) → Prop} {Q : Option Value → xM → Prop} (hcc : ∀ (j : Nat) (as : List Value) (m : xM) (f g : Option Value → xM → Prop), (∀ rv m', f rv m' → g rv m') → ca j as m f → ca2 j as m g) : ∀ n pc l st m, xe k ca Q n pc l st m → xe k ca2 Q n pc l st m := by
  intro n
  induction n with
  | zero => exact fun _ _ _ _ h => h
  | succ n ih =>
    intro pc l st m h
    unfold xe at h ⊢
    generalize lkc pc (kcode k) = z at h ⊢
    rcases z with _ | i
    · exact h
    · exact xi_mo hcc ih i pc l st m h
theorem xw_im {d j : Nat} {as : List Value} {m : xM} {P P2 : Option Value → xM → Prop} (h : xw d j as m P) (hp : ∀ rv m', P rv m' → P2 rv m') : xw d j as m P2 := by
  obtain ⟨rv, m', h1, h2⟩ := xw_det d j as m P h
  exact h2 _ (hp _ _ h1)
theorem xw_up : ∀ d j as m (P : Option Value → xM → Prop), xw d j as m P → xw (d + 1) j as m P := by
  intro d
  induction d with
  | zero => exact fun _ _ _ _ h => h.elim
  | succ d ih =>
    intro j as m P h
    unfold xw at h ⊢
    cases hb : Nat.ble 271 j with
    | true => rw [hb] at h; exact h
    | false =>
      rw [hb] at h
      obtain ⟨h1, h2, h3, n, h4⟩ := h
      exact ⟨h1, h2, h3, n, xe_mo (fun j as m f g hfg h => xw_im (ih j as m f h) hfg) n _ _ _ _ h4⟩
theorem xw_ups {d j : Nat} {as : List Value} {m : xM} {P : Option Value → xM → Prop} (h : xw d j as m P) : ∀ e, xw (d + e) j as m P := by
  intro e
  induction e with
  | zero => exact h
  | succ e ih => exact xw_up _ _ _ _ _ ih
/-! what two sayings of one call say holds together of its end -/
def dJ (kk : (Option Value → xM → Prop) → Prop) : Prop := ∀ Q R : Option Value → xM → Prop, kk Q → kk R → kk (fun rv m => Q rv m ∧ R rv m)
theorem dJ_false : dJ (fun _ => False) := fun _ _ h _ => h.elim
theorem dJ_end (rv : Option Value) (m : xM) : dJ (fun Q => Q rv m) := fun _ _ h g => ⟨h, g⟩
theorem dJ_and {A : Prop} {f : (Option Value → xM → Prop) → Prop} (h : dJ f) : dJ (fun Q => A ∧ f Q) := fun Q R h1 h2 => ⟨h1.1, h Q R h1.2 h2.2⟩
theorem dJ_ite {c : Prop} {f g : (Option Value → xM → Prop) → Prop} (h1 : dJ f) (h2 : dJ g) : dJ (fun Q => (c → f Q) ∧ (¬ c → g Q)) := fun Q R h k => ⟨fun z => h1 Q R (h.1 z) (k.1 z), fun z => h2 Q R (h.2 z) (k.2 z)⟩
theorem dJ_iten {c : Prop} {f g : (Option Value → xM → Prop) → Prop} (h1 : dJ f) (h2 : dJ g) : dJ (fun Q => (¬ c → f Q) ∧ (c → g Q)) := fun Q R h k => ⟨fun z => h1 Q R (h.1 z) (k.1 z), fun z => h2 Q R (h.2 z) (k.2 z)⟩
theorem dJ_pI {st : List Value} {f : (Option Value → xM → Prop) → Int32 → List Value → Prop} (h : ∀ x r, dJ (fun Q => f Q x r)) : dJ (fun Q => pI st (f Q)) := by
  unfold pI
  rcases st with _ | ⟨v, r⟩
  · exact dJ_false
  · cases v <;> first | exact dJ_false | exact h _ _
theorem dJ_pL {st : List Value} {f : (Option Value → xM → Prop) → Int64 → List Value → Prop} (h : ∀ x r, dJ (fun Q => f Q x r)) : dJ (fun Q => pL st (f Q)) := by
  unfold pL
  rcases st with _ | ⟨v, r⟩
  · exact dJ_false
  · cases v <;> first | exact dJ_false | exact h _ _
theorem dJ_pR {st : List Value} {f : (Option Value → xM → Prop) → Nat → List Value → Prop} (h : ∀ x r, dJ (fun Q => f Q x r)) : dJ (fun Q => pR st (f Q)) := by
  unfold pR
  rcases st with _ | ⟨v, r⟩
  · exact dJ_false
  · cases v <;> first | exact dJ_false | exact h _ _
theorem dJ_pV {st : List Value} {f : (Option Value → xM → Prop) → Value → List Value → Prop} (h : ∀ x r, dJ (fun Q => f Q x r)) : dJ (fun Q => pV st (f Q)) := by
  unfold pV
  rcases st with _ | ⟨v, r⟩
  · exact dJ_false
  · exact h _ _
theorem dJ_ca {g : (Option Value → xM → Prop) → Prop} {f : (Option Value → xM → Prop) → Option Value → xM → Prop} (hg : dJ g) (hgd : dK g) (h : ∀ rv m, dJ (fun Q => f Q rv m)) : dJ (fun Q => g (f Q)) := fun Q R h1 h2 => by
  obtain ⟨rv, m', h3, h4⟩ := hgd _ (hg _ _ h1 h2)
  exact h4 _ (h rv m' Q R h3.1 h3.2)
theorem dJ_sw {a b : Prop} {α : Type} {z : Option α} {f : (Option Value → xM → Prop) → Prop} {g : (Option Value → xM → Prop) → α → Prop} (h1 : dJ f) (h2 : ∀ o, dJ (fun Q => g Q o)) : dJ (fun Q => (a ∨ b → f Q) ∧ (¬ a → ¬ b → ∃ o, z = some o ∧ g Q o)) := fun Q R h k => ⟨fun c => h1 Q R (h.1 c) (k.1 c), fun n1 n2 => by
  obtain ⟨o, e, h3⟩ := h.2 n1 n2
  obtain ⟨o2, e2, h4⟩ := k.2 n1 n2
  rw [e] at e2
  cases e2
  exact ⟨o, e, h2 o Q R h3 h4⟩⟩
section CONJ
variable {k : Nat} {ca : Nat → List Value → xM → (Option Value → xM → Prop) → Prop} {kk : (Option Value → xM → Prop) → Nat → List (Nat × Value) → List Value → xM → Prop}
set_option maxHeartbeats 8000000 in
theorem xi_cj (hcd : ∀ j as m, dK (fun Q => ca j as m Q)) (hca : ∀ j as m, dJ (fun Q => ca j as m Q)) (hk : ∀ pc l st m, dJ (fun Q => kk Q pc l st m)) (i : Instr) (pc : Nat) (l : List (Nat × Value)) (st : List Value) (m : xM) : dJ (fun Q => xi k ca (kk Q) Q i pc l st m) := by
  cases i
  case iload_n n => simp only [xi]; generalize lkl n l = z; rcases z with _ | v; exact dJ_false; cases v <;> first | exact dJ_false | exact hk _ _ _ _
  case iload n => simp only [xi]; generalize lkl n l = z; rcases z with _ | v; exact dJ_false; cases v <;> first | exact dJ_false | exact hk _ _ _ _
  case lload_n n => simp only [xi]; generalize lkl n l = z; rcases z with _ | v; exact dJ_false; cases v <;> first | exact dJ_false | exact hk _ _ _ _
  case lload n => simp only [xi]; generalize lkl n l = z; rcases z with _ | v; exact dJ_false; cases v <;> first | exact dJ_false | exact hk _ _ _ _
  case aload_n n => simp only [xi]; generalize lkl n l = z; rcases z with _ | v; exact dJ_false; cases v <;> first | exact dJ_false | exact hk _ _ _ _
  case aload n => simp only [xi]; generalize lkl n l = z; rcases z with _ | v; exact dJ_false; cases v <;> first | exact dJ_false | exact hk _ _ _ _
  case iinc n d => simp only [xi]; refine dJ_and ?_; generalize lkl n l = z; rcases z with _ | v; exact dJ_false; cases v <;> first | exact dJ_false | exact hk _ _ _ _
  case ifCond c o => cases c <;> simp only [xi] <;> refine dJ_pI (fun _ _ => ?_) <;> first | exact dJ_ite (hk _ _ _ _) (hk _ _ _ _) | exact dJ_iten (hk _ _ _ _) (hk _ _ _ _)
  case if_icmp c o => cases c <;> simp only [xi] <;> refine dJ_pI (fun _ _ => dJ_pI (fun _ _ => ?_)) <;> first | exact dJ_ite (hk _ _ _ _) (hk _ _ _ _) | exact dJ_iten (hk _ _ _ _) (hk _ _ _ _)
  case tableswitch d lo hi os => simp only [xi]; exact dJ_pI (fun _ _ => dJ_sw (hk _ _ _ _) (fun _ => hk _ _ _ _))
  case ldc n => simp only [xi]; generalize kLd (kcl k) n = z; rcases z with _ | v; exact dJ_false; cases v <;> first | exact dJ_false | exact hk _ _ _ _
  case ldc_w n => simp only [xi]; generalize kLd (kcl k) n = z; rcases z with _ | v; exact dJ_false; cases v <;> first | exact dJ_false | exact hk _ _ _ _
  case ldc2_w n => simp only [xi]; generalize kLd (kcl k) n = z; rcases z with _ | v; exact dJ_false; cases v <;> first | exact dJ_false | exact hk _ _ _ _
  case getstatic n => simp only [xi]; generalize kSt (kcl k) n = z; rcases z with _ | v; exact dJ_false; exact hk _ _ _ _
  case getfield n =>
    simp only [xi]
    refine dJ_pR (fun a r => ?_)
    generalize kFd (kcl k) n = z
    rcases z with _ | ⟨ci, f⟩
    · exact dJ_false
    · exact dJ_and (hk _ _ _ _)
  case putfield n =>
    simp only [xi]
    generalize kFd (kcl k) n = z
    rcases z with _ | ⟨ci, f⟩
    · exact dJ_false
    · refine dJ_and ?_
      generalize fk ci f = y
      match y with
      | 0 => exact dJ_pI (fun _ _ => dJ_pR (fun _ _ => dJ_and (hk _ _ _ _)))
      | 1 => exact dJ_pI (fun _ _ => dJ_pR (fun _ _ => dJ_and (dJ_and (hk _ _ _ _))))
      | 2 => exact dJ_pL (fun _ _ => dJ_pR (fun _ _ => dJ_and (hk _ _ _ _)))
      | 3 => exact dJ_pR (fun _ _ => dJ_pR (fun _ _ => dJ_and (hk _ _ _ _)))
      | _ + 4 => exact dJ_false
  case arraylength =>
    simp only [xi]
    refine dJ_pR (fun a r => ?_)
    generalize lay a = z
    match z with
    | (0, _, n) => exact hk _ _ _ _
    | (4, _, n) => exact hk _ _ _ _
    | (1, _, n) | (2, _, n) | (3, _, n) => exact dJ_false
    | (_ + 5, _, n) => exact dJ_false
  case iaload =>
    simp only [xi]
    refine dJ_pI (fun i r => dJ_pR (fun a r => ?_))
    generalize lay a = z
    match z with
    | (0, 0, n) => exact dJ_and (hk _ _ _ _)
    | (4, 0, n) => exact dJ_and (hk _ _ _ _)
    | (0, _ + 1, n) | (4, _ + 1, n) | (1, _, n) | (2, _, n) | (3, _, n) => exact dJ_false
    | (_ + 5, _, n) => exact dJ_false
  case baload =>
    simp only [xi]
    refine dJ_pI (fun i r => dJ_pR (fun a r => ?_))
    generalize lay a = z
    match z with
    | (0, 1, n) => exact dJ_and (hk _ _ _ _)
    | (0, 2, n) => exact dJ_and (hk _ _ _ _)
    | (0, 0, n) | (0, _ + 3, n) | (4, _, n) | (1, _, n) | (2, _, n) | (3, _, n) => exact dJ_false
    | (_ + 5, _, n) => exact dJ_false
  case caload =>
    simp only [xi]
    refine dJ_pI (fun i r => dJ_pR (fun a r => ?_))
    generalize lay a = z
    match z with
    | (4, 3, n) => exact dJ_and (hk _ _ _ _)
    | (4, 0, n) | (4, 1, n) | (4, 2, n) | (4, _ + 4, n) | (0, _, n) | (1, _, n) | (2, _, n) | (3, _, n) => exact dJ_false
    | (_ + 5, _, n) => exact dJ_false
  case laload =>
    simp only [xi]
    refine dJ_pI (fun i r => dJ_pR (fun a r => ?_))
    generalize lay a = z
    match z with
    | (1, _, n) => exact dJ_and (hk _ _ _ _)
    | (0, _, n) => exact dJ_false
    | (_ + 2, _, n) => exact dJ_false
  case aaload =>
    simp only [xi]
    refine dJ_pI (fun i r => dJ_pR (fun a r => ?_))
    generalize lay a = z
    match z with
    | (2, _, n) => exact dJ_and (hk _ _ _ _)
    | (0, _, n) | (1, _, n) => exact dJ_false
    | (_ + 3, _, n) => exact dJ_false
  case iastore =>
    simp only [xi]
    refine dJ_pI (fun x r => dJ_pI (fun i r => dJ_pR (fun a r => ?_)))
    generalize lay a = z
    match z with
    | (0, 0, n) => exact dJ_and (hk _ _ _ _)
    | (0, _ + 1, n) => exact dJ_false
    | (_ + 1, _, n) => exact dJ_false
  case bastore =>
    simp only [xi]
    refine dJ_pI (fun x r => dJ_pI (fun i r => dJ_pR (fun a r => ?_)))
    generalize lay a = z
    match z with
    | (0, 1, n) => exact dJ_and (hk _ _ _ _)
    | (0, 2, n) => exact dJ_and (hk _ _ _ _)
    | (0, 0, n) | (0, _ + 3, n) => exact dJ_false
    | (_ + 1, _, n) => exact dJ_false
  case lastore =>
    simp only [xi]
    refine dJ_pL (fun x r => dJ_pI (fun i r => dJ_pR (fun a r => ?_)))
    generalize lay a = z
    match z with
    | (1, _, n) => exact dJ_and (hk _ _ _ _)
    | (0, _, n) => exact dJ_false
    | (_ + 2, _, n) => exact dJ_false
  case invokevirtual n =>
    simp only [xi]
    generalize kCl (kcl k) n = z
    match z with
    | some (1, j) =>
      show dJ (fun Q => match pops (knp j) st with
        | some (as, .ref b :: r) => lay b = (3, kcl j, kNf (kcl j)) ∧ (r.map fun v => v.category).sum ≤ 8 ∧ kmc j = 0 ∧ kms j = 0 ∧ ca j (.ref b :: as) m (fun rv m' => kk Q (pc + 3) l (rv.toList ++ r) m')
        | _ => False)
      generalize pops (knp j) st = y
      rcases y with _ | ⟨as, r⟩
      · exact dJ_false
      · rcases r with _ | ⟨v, r⟩
        · exact dJ_false
        · cases v <;> first | exact dJ_false | exact dJ_and (dJ_and (dJ_and (dJ_and (dJ_ca (hca _ _ _) (hcd _ _ _) (fun _ _ => hk _ _ _ _)))))
    | some (3, j) =>
      show dJ (fun Q => match pops (knp j) st with
        | some (as, .ref b :: r) => (lay b).1 = 5 ∧ (r.map fun v => v.category).sum ≤ 8 ∧ ca j (.ref b :: as) m (fun rv m' => kk Q (pc + 3) l (rv.toList ++ r) m')
        | _ => False)
      generalize pops (knp j) st = y
      rcases y with _ | ⟨as, r⟩
      · exact dJ_false
      · rcases r with _ | ⟨v, r⟩
        · exact dJ_false
        · cases v <;> first | exact dJ_false | exact dJ_and (dJ_and (dJ_ca (hca _ _ _) (hcd _ _ _) (fun _ _ => hk _ _ _ _)))
    | none => exact dJ_false
    | some (0, _) | some (2, _) => exact dJ_false
    | some (_ + 4, _) => exact dJ_false
  case invokestatic n =>
    simp only [xi]
    generalize kCl (kcl k) n = z
    match z with
    | some (2, j) =>
      show dJ (fun Q => match pops (knp j) st with
        | some (as, r) => (r.map fun v => v.category).sum ≤ 8 ∧ kmc j = 0 ∧ kms j = 0 ∧ ca j as m (fun rv m' => kk Q (pc + 3) l (rv.toList ++ r) m')
        | none => False)
      generalize pops (knp j) st = y
      rcases y with _ | ⟨as, r⟩
      · exact dJ_false
      · exact dJ_and (dJ_and (dJ_and (dJ_ca (hca _ _ _) (hcd _ _ _) (fun _ _ => hk _ _ _ _))))
    | some (5, _) =>
      try dsimp only
      refine dJ_pI (fun n r => dJ_pI (fun dp r => dJ_pR (fun b r => dJ_pI (fun sp r => dJ_pR (fun a r => dJ_and (dJ_and (dJ_and (dJ_and ?_))))))))
      generalize lay b = z
      match z with
      | (0, 0, nb) =>
        refine dJ_and ?_
        generalize lay a = y
        match y with
        | (0, 0, na) => exact dJ_and (hk _ _ _ _)
        | (4, 0, na) => exact dJ_and (hk _ _ _ _)
        | (0, _ + 1, na) | (4, _ + 1, na) | (1, _, na) | (2, _, na) | (3, _, na) => exact dJ_false
        | (_ + 5, _, na) => exact dJ_false
      | (0, _ + 1, nb) => exact dJ_false
      | (_ + 1, _, nb) => exact dJ_false
    | none => exact dJ_false
    | some (0, _) | some (1, _) | some (3, _) | some (4, _) => exact dJ_false
    | some (_ + 6, _) => exact dJ_false
  all_goals simp only [xi]
  all_goals repeat' first
    | exact dJ_false
    | exact hk _ _ _ _
    | exact dJ_end _ _
    | refine dJ_pI (fun _ _ => ?_)
    | refine dJ_pL (fun _ _ => ?_)
    | refine dJ_pR (fun _ _ => ?_)
    | refine dJ_pV (fun _ _ => ?_)
    | refine dJ_and ?_
end CONJ
theorem xe_cj {k : Nat} {ca : Nat → List Value → xM → (Option Value → xM → Prop) → Prop} (hcd : ∀ j as m, dK (fun Q => ca j as m Q)) (hca : ∀ j as m, dJ (fun Q => ca j as m Q)) : ∀ n pc l st m, dJ (fun Q => xe k ca Q n pc l st m) := by
  intro n
  induction n with
  | zero => exact fun _ _ _ _ => dJ_false
  | succ n ih =>
    intro pc l st m
    simp only [xe]
    generalize lkc pc (kcode k) = z
    rcases z with _ | i
    · exact dJ_false
    · exact xi_cj (kk := fun Q => xe k ca Q n) hcd hca ih i pc l st m
theorem xe_fu {k : Nat} {ca : Nat → List Value → xM → (Option Value → xM → Prop) → Prop} {Q : Option Value → xM → Prop} (hcd : ∀ j as m, dK (fun Q => ca j as m Q)) : ∀ n pc l st m, xe k ca Q n pc l st m → xe k ca Q (n + 1) pc l st m := by
  intro n
  induction n with
  | zero => exact fun _ _ _ _ h => h.elim
  | succ n ih =>
    intro pc l st m h
    unfold xe at h ⊢
    generalize lkc pc (kcode k) = z at h ⊢
    rcases z with _ | i
    · exact h
    · replace h : xi k ca (xe k ca Q n) Q i pc l st m := h
      show xi k ca (xe k ca Q (n + 1)) Q i pc l st m
      exact xi_mo (ca := ca) (ca2 := ca) (fun j as m f g hfg h => ca_i hcd hfg h) ih i pc l st m h
theorem xe_fus {k : Nat} {ca : Nat → List Value → xM → (Option Value → xM → Prop) → Prop} {Q : Option Value → xM → Prop} (hcd : ∀ j as m, dK (fun Q => ca j as m Q)) {n pc : Nat} {l : List (Nat × Value)} {st : List Value} {m : xM} (h : xe k ca Q n pc l st m) : ∀ e, xe k ca Q (n + e) pc l st m := by
  intro e
  induction e with
  | zero => exact h
  | succ e ih => exact xe_fu hcd _ _ _ _ _ ih
theorem xstr_cj {j : Nat} {as : List Value} {m : xM} : dJ (fun Q => xstr j as m Q) := fun Q R h1 h2 => by
  match as, h1, h2 with
  | [.ref a], h1, h2 =>
    unfold xstr at h1 h2 ⊢
    obtain ⟨e1, h1⟩ := h1
    replace h2 := h2.2
    refine ⟨e1, ?_⟩
    generalize lay a = z at h1 h2 ⊢
    match z, h1, h2 with
    | (5, _, n), h1, h2 => exact ⟨h1, h2⟩
  | [.ref a, .int i], h1, h2 =>
    unfold xstr at h1 h2 ⊢
    obtain ⟨e1, h1⟩ := h1
    replace h2 := h2.2
    refine ⟨e1, ?_⟩
    generalize lay a = z at h1 h2 ⊢
    match z, h1, h2 with
    | (5, _, n), h1, h2 => exact ⟨h1.1, h1.2, h2.2⟩
theorem xw_cj : ∀ d j as m, dJ (fun Q => xw d j as m Q) := by
  intro d
  induction d with
  | zero => exact fun _ _ _ => dJ_false
  | succ d ih =>
    intro j as m Q R h g
    unfold xw at h g ⊢
    cases hb : Nat.ble 271 j with
    | true =>
      rw [hb] at h g
      exact xstr_cj Q R h g
    | false =>
      rw [hb] at h g
      obtain ⟨h1, h2, h3, n1, h4⟩ := h
      obtain ⟨-, -, -, n2, g4⟩ := g
      refine ⟨h1, h2, h3, n1 + n2, ?_⟩
      have g5 := xe_fus (xw_det d) g4 n1
      rw [Nat.add_comm] at g5
      exact xe_cj (xw_det d) ih _ _ _ _ _ Q R (xe_fus (xw_det d) h4 n2) g5
/-! contracts as forward sayings -/
/-- what holds of the one end at some depth is a forward saying -/
theorem fC_xw {D j : Nat} {as : List Value} {m : xM} {F : Option Value → xM → Prop} (h : xw D j as m F) : fC j as m F := fun d P hp => by
  have h1 := xw_ups h d
  have h2 := xw_ups hp D
  rw [Nat.add_comm] at h1
  obtain ⟨rv, m', h3, -⟩ := xw_det _ j as m _ (xw_cj _ j as m P F h2 h1)
  exact ⟨rv, m', h3⟩
theorem fC_two {j : Nat} {as : List Value} {m : xM} {F G : Option Value → xM → Prop} (hf : fC j as m F) (hg : fC j as m G) : fC j as m (fun rv m' => F rv m' ∧ G rv m') := fun d P h => by
  have h1 := fC_and (fC_and h hf) hg
  obtain ⟨rv, m', h2, -⟩ := xw_det d j as m _ h1
  exact ⟨rv, m', h2.1.1, h2.1.2, h2.2⟩
theorem fC_vC {tS : Nat → List (Nat × Int × Int)} {tR : Nat → Nat → Option Nat} {J : xM → Prop} {D : Nat} {c : aCt} (h : vC tS tR J D c) {m : xM} {vs : List Value} (h1 : gI tS tR m) (h2 : J m) (h3 : aMt vs c.2.1) (h4 : gF m c.2.2.1) : fC c.1 vs m (cPo tS tR c m vs) := fC_xw (h D (Nat.le_refl _) m vs _ h1 h2 h3 h4 (fun _ _ h => h))
