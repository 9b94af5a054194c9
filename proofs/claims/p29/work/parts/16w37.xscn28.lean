theorem k65_0 : lkc 0 (kcode 65) = some (.iconst 0) := by decide +kernel
theorem k65_1 : lkc 1 (kcode 65) = some (.istore_n 2) := by decide +kernel
theorem k65_2 : lkc 2 (kcode 65) = some (.iconst 0) := by decide +kernel
theorem k65_3 : lkc 3 (kcode 65) = some (.istore_n 3) := by decide +kernel
theorem k65_4 : lkc 4 (kcode 65) = some (.iload_n 3) := by decide +kernel
theorem k65_5 : lkc 5 (kcode 65) = some (.aload_n 0) := by decide +kernel
theorem k65_6 : lkc 6 (kcode 65) = some (.getfield 29) := by decide +kernel
theorem k65_9 : lkc 9 (kcode 65) = some (.if_icmp .ge 22) := by decide +kernel
theorem k65_12 : lkc 12 (kcode 65) = some (.iload_n 2) := by decide +kernel
theorem k65_13 : lkc 13 (kcode 65) = some (.aload_n 0) := by decide +kernel
theorem k65_14 : lkc 14 (kcode 65) = some (.getfield 22) := by decide +kernel
theorem k65_17 : lkc 17 (kcode 65) = some (.iload_n 3) := by decide +kernel
theorem k65_18 : lkc 18 (kcode 65) = some (.iaload) := by decide +kernel
theorem k65_19 : lkc 19 (kcode 65) = some (.iload_n 1) := by decide +kernel
theorem k65_20 : lkc 20 (kcode 65) = some (.ishr) := by decide +kernel
theorem k65_21 : lkc 21 (kcode 65) = some (.iconst 1) := by decide +kernel
theorem k65_22 : lkc 22 (kcode 65) = some (.iand) := by decide +kernel
theorem k65_23 : lkc 23 (kcode 65) = some (.iadd) := by decide +kernel
theorem k65_24 : lkc 24 (kcode 65) = some (.istore_n 2) := by decide +kernel
theorem k65_25 : lkc 25 (kcode 65) = some (.iinc 3 1) := by decide +kernel
theorem k65_28 : lkc 28 (kcode 65) = some (.goto (-24)) := by decide +kernel
theorem k65_31 : lkc 31 (kcode 65) = some (.iload_n 2) := by decide +kernel
theorem k65_32 : lkc 32 (kcode 65) = some (.aload_n 0) := by decide +kernel
theorem k65_33 : lkc 33 (kcode 65) = some (.getfield 29) := by decide +kernel
theorem k65_36 : lkc 36 (kcode 65) = some (.iload_n 2) := by decide +kernel
theorem k65_37 : lkc 37 (kcode 65) = some (.isub) := by decide +kernel
theorem k65_38 : lkc 38 (kcode 65) = some (.isub) := by decide +kernel
theorem k65_39 : lkc 39 (kcode 65) = some (.invokestatic 48) := by decide +kernel
theorem k65_42 : lkc 42 (kcode 65) = some (.ireturn) := by decide +kernel
theorem k138_0 : lkc 0 (kcode 138) = some (.aload_n 0) := by decide +kernel
theorem k138_1 : lkc 1 (kcode 138) = some (.invokevirtual 239) := by decide +kernel
theorem k138_4 : lkc 4 (kcode 138) = some (.ifCond .eq 24) := by decide +kernel
theorem k138_7 : lkc 7 (kcode 138) = some (.aload_n 0) := by decide +kernel
theorem k138_8 : lkc 8 (kcode 138) = some (.getfield 68) := by decide +kernel
theorem k138_11 : lkc 11 (kcode 138) = some (.aload_n 0) := by decide +kernel
theorem k138_12 : lkc 12 (kcode 138) = some (.getfield 19) := by decide +kernel
theorem k138_15 : lkc 15 (kcode 138) = some (.aload_n 0) := by decide +kernel
theorem k138_16 : lkc 16 (kcode 138) = some (.getfield 75) := by decide +kernel
theorem k138_19 : lkc 19 (kcode 138) = some (.getfield 193) := by decide +kernel
theorem k138_22 : lkc 22 (kcode 138) = some (.invokevirtual 338) := by decide +kernel
theorem k138_25 : lkc 25 (kcode 138) = some (.ifCond .ne 5) := by decide +kernel
theorem k138_28 : lkc 28 (kcode 138) = some (.iconst (-1)) := by decide +kernel
theorem k138_29 : lkc 29 (kcode 138) = some (.ireturn) := by decide +kernel
theorem k138_30 : lkc 30 (kcode 138) = some (.iconst (-1)) := by decide +kernel
theorem k138_31 : lkc 31 (kcode 138) = some (.istore_n 1) := by decide +kernel
theorem k138_32 : lkc 32 (kcode 138) = some (.iconst 0) := by decide +kernel
theorem k138_33 : lkc 33 (kcode 138) = some (.istore_n 2) := by decide +kernel
theorem k138_34 : lkc 34 (kcode 138) = some (.iconst 0) := by decide +kernel
theorem k138_35 : lkc 35 (kcode 138) = some (.istore_n 3) := by decide +kernel
theorem k138_36 : lkc 36 (kcode 138) = some (.iload_n 3) := by decide +kernel
theorem k138_37 : lkc 37 (kcode 138) = some (.aload_n 0) := by decide +kernel
theorem k138_38 : lkc 38 (kcode 138) = some (.getfield 19) := by decide +kernel
theorem k138_41 : lkc 41 (kcode 138) = some (.getfield 216) := by decide +kernel
theorem k138_44 : lkc 44 (kcode 138) = some (.if_icmp .ge 35) := by decide +kernel
theorem k138_47 : lkc 47 (kcode 138) = some (.aload_n 0) := by decide +kernel
theorem k138_48 : lkc 48 (kcode 138) = some (.getfield 68) := by decide +kernel
theorem k138_51 : lkc 51 (kcode 138) = some (.iload_n 3) := by decide +kernel
theorem k138_52 : lkc 52 (kcode 138) = some (.invokevirtual 345) := by decide +kernel
theorem k138_55 : lkc 55 (kcode 138) = some (.istore 4) := by decide +kernel
theorem k138_57 : lkc 57 (kcode 138) = some (.iload_n 1) := by decide +kernel
theorem k138_58 : lkc 58 (kcode 138) = some (.iconst (-1)) := by decide +kernel
theorem k138_59 : lkc 59 (kcode 138) = some (.if_icmp .eq 9) := by decide +kernel
theorem k138_62 : lkc 62 (kcode 138) = some (.iload 4) := by decide +kernel
theorem k138_64 : lkc 64 (kcode 138) = some (.iload_n 2) := by decide +kernel
theorem k138_65 : lkc 65 (kcode 138) = some (.if_icmp .ge 8) := by decide +kernel
theorem k138_68 : lkc 68 (kcode 138) = some (.iload_n 3) := by decide +kernel
theorem k138_69 : lkc 69 (kcode 138) = some (.istore_n 1) := by decide +kernel
theorem k138_70 : lkc 70 (kcode 138) = some (.iload 4) := by decide +kernel
theorem k138_72 : lkc 72 (kcode 138) = some (.istore_n 2) := by decide +kernel
theorem k138_73 : lkc 73 (kcode 138) = some (.iinc 3 1) := by decide +kernel
theorem k138_76 : lkc 76 (kcode 138) = some (.goto (-40)) := by decide +kernel
theorem k138_79 : lkc 79 (kcode 138) = some (.iload_n 1) := by decide +kernel
theorem k138_80 : lkc 80 (kcode 138) = some (.ireturn) := by decide +kernel
theorem k238_0 : lkc 0 (kcode 238) = some (.aload_n 0) := by decide +kernel
theorem k238_1 : lkc 1 (kcode 238) = some (.iconst 0) := by decide +kernel
theorem k238_2 : lkc 2 (kcode 238) = some (.putfield 90) := by decide +kernel
theorem k238_5 : lkc 5 (kcode 238) = some (.aload_n 0) := by decide +kernel
theorem k238_6 : lkc 6 (kcode 238) = some (.getfield 283) := by decide +kernel
theorem k238_9 : lkc 9 (kcode 238) = some (.ifCond .ne 5) := by decide +kernel
theorem k238_12 : lkc 12 (kcode 238) = some (.iconst (-1)) := by decide +kernel
theorem k238_13 : lkc 13 (kcode 238) = some (.ireturn) := by decide +kernel
theorem k238_14 : lkc 14 (kcode 238) = some (.iconst (-1)) := by decide +kernel
theorem k238_15 : lkc 15 (kcode 238) = some (.istore_n 1) := by decide +kernel
theorem k238_16 : lkc 16 (kcode 238) = some (.iconst 0) := by decide +kernel
theorem k238_17 : lkc 17 (kcode 238) = some (.istore_n 2) := by decide +kernel
theorem k238_18 : lkc 18 (kcode 238) = some (.iconst 0) := by decide +kernel
theorem k238_19 : lkc 19 (kcode 238) = some (.istore_n 3) := by decide +kernel
theorem k238_20 : lkc 20 (kcode 238) = some (.iload_n 3) := by decide +kernel
theorem k238_21 : lkc 21 (kcode 238) = some (.aload_n 0) := by decide +kernel
theorem k238_22 : lkc 22 (kcode 238) = some (.getfield 280) := by decide +kernel
theorem k238_25 : lkc 25 (kcode 238) = some (.if_icmp .ge 106) := by decide +kernel
theorem k238_28 : lkc 28 (kcode 238) = some (.iconst 0) := by decide +kernel
theorem k238_29 : lkc 29 (kcode 238) = some (.istore 4) := by decide +kernel
theorem k238_31 : lkc 31 (kcode 238) = some (.iconst 0) := by decide +kernel
theorem k238_32 : lkc 32 (kcode 238) = some (.istore 5) := by decide +kernel
theorem k238_34 : lkc 34 (kcode 238) = some (.iconst 0) := by decide +kernel
theorem k238_35 : lkc 35 (kcode 238) = some (.istore 6) := by decide +kernel
theorem k238_37 : lkc 37 (kcode 238) = some (.iload 6) := by decide +kernel
theorem k238_39 : lkc 39 (kcode 238) = some (.bipush 99) := by decide +kernel
theorem k238_41 : lkc 41 (kcode 238) = some (.if_icmp .gt 51) := by decide +kernel
theorem k238_44 : lkc 44 (kcode 238) = some (.aload_n 0) := by decide +kernel
theorem k238_45 : lkc 45 (kcode 238) = some (.iload 6) := by decide +kernel
theorem k238_47 : lkc 47 (kcode 238) = some (.invokevirtual 438) := by decide +kernel
theorem k238_50 : lkc 50 (kcode 238) = some (.ifCond .ne 6) := by decide +kernel
theorem k238_53 : lkc 53 (kcode 238) = some (.goto 33) := by decide +kernel
theorem k238_56 : lkc 56 (kcode 238) = some (.iconst 1) := by decide +kernel
theorem k238_57 : lkc 57 (kcode 238) = some (.istore 5) := by decide +kernel
theorem k238_59 : lkc 59 (kcode 238) = some (.iload 4) := by decide +kernel
theorem k238_61 : lkc 61 (kcode 238) = some (.aload_n 0) := by decide +kernel
theorem k238_62 : lkc 62 (kcode 238) = some (.aload_n 0) := by decide +kernel
theorem k238_63 : lkc 63 (kcode 238) = some (.iload 6) := by decide +kernel
theorem k238_65 : lkc 65 (kcode 238) = some (.invokevirtual 435) := by decide +kernel
theorem k238_68 : lkc 68 (kcode 238) = some (.invokevirtual 319) := by decide +kernel
theorem k238_71 : lkc 71 (kcode 238) = some (.iload_n 3) := by decide +kernel
theorem k238_72 : lkc 72 (kcode 238) = some (.invokestatic 223) := by decide +kernel
theorem k238_75 : lkc 75 (kcode 238) = some (.ifCond .eq 7) := by decide +kernel
theorem k238_78 : lkc 78 (kcode 238) = some (.iconst 1) := by decide +kernel
theorem k238_79 : lkc 79 (kcode 238) = some (.goto 4) := by decide +kernel
theorem k238_82 : lkc 82 (kcode 238) = some (.iconst (-1)) := by decide +kernel
theorem k238_83 : lkc 83 (kcode 238) = some (.iadd) := by decide +kernel
theorem k238_84 : lkc 84 (kcode 238) = some (.istore 4) := by decide +kernel
theorem k238_86 : lkc 86 (kcode 238) = some (.iinc 6 1) := by decide +kernel
theorem k238_89 : lkc 89 (kcode 238) = some (.goto (-52)) := by decide +kernel
theorem k238_92 : lkc 92 (kcode 238) = some (.iload 5) := by decide +kernel
theorem k238_94 : lkc 94 (kcode 238) = some (.ifCond .ne 5) := by decide +kernel
theorem k238_97 : lkc 97 (kcode 238) = some (.iconst (-1)) := by decide +kernel
theorem k238_98 : lkc 98 (kcode 238) = some (.ireturn) := by decide +kernel
theorem k238_99 : lkc 99 (kcode 238) = some (.iload 4) := by decide +kernel
theorem k238_101 : lkc 101 (kcode 238) = some (.invokestatic 441) := by decide +kernel
theorem k238_104 : lkc 104 (kcode 238) = some (.istore 4) := by decide +kernel
theorem k238_106 : lkc 106 (kcode 238) = some (.iload_n 1) := by decide +kernel
theorem k238_107 : lkc 107 (kcode 238) = some (.iconst (-1)) := by decide +kernel
theorem k238_108 : lkc 108 (kcode 238) = some (.if_icmp .eq 12) := by decide +kernel
theorem k238_111 : lkc 111 (kcode 238) = some (.iload 4) := by decide +kernel
theorem k238_113 : lkc 113 (kcode 238) = some (.iload_n 2) := by decide +kernel
theorem k238_114 : lkc 114 (kcode 238) = some (.if_icmp .lt 6) := by decide +kernel
theorem k238_117 : lkc 117 (kcode 238) = some (.goto 8) := by decide +kernel
theorem k238_120 : lkc 120 (kcode 238) = some (.iload_n 3) := by decide +kernel
theorem k238_121 : lkc 121 (kcode 238) = some (.istore_n 1) := by decide +kernel
theorem k238_122 : lkc 122 (kcode 238) = some (.iload 4) := by decide +kernel
theorem k238_124 : lkc 124 (kcode 238) = some (.istore_n 2) := by decide +kernel
theorem k238_125 : lkc 125 (kcode 238) = some (.iinc 3 1) := by decide +kernel
theorem k238_128 : lkc 128 (kcode 238) = some (.goto (-108)) := by decide +kernel
theorem k238_131 : lkc 131 (kcode 238) = some (.iload_n 1) := by decide +kernel
theorem k238_132 : lkc 132 (kcode 238) = some (.ireturn) := by decide +kernel
theorem k266_0 : lkc 0 (kcode 266) = some (.iload_n 0) := by decide +kernel
theorem k266_1 : lkc 1 (kcode 266) = some (.ifCond .ge 8) := by decide +kernel
theorem k266_4 : lkc 4 (kcode 266) = some (.iload_n 0) := by decide +kernel
theorem k266_5 : lkc 5 (kcode 266) = some (.ineg) := by decide +kernel
theorem k266_6 : lkc 6 (kcode 266) = some (.goto 4) := by decide +kernel
theorem k266_9 : lkc 9 (kcode 266) = some (.iload_n 0) := by decide +kernel
theorem k266_10 : lkc 10 (kcode 266) = some (.ireturn) := by decide +kernel
/-! forward: where to ask, both sides -/
theorem mdf_n : ∀ k : Fin 101, (k.val ≠ 0 → ¬ (0 : Int32) ≤ 0 - nI k.val) ∧ -(0 - nI k.val) = nI k.val := by decide +kernel
theorem mdf_s {a b : Nat} (ha : a ≤ 100) (hb : b ≤ 100) (h : a < b) : nI a - nI b = 0 - nI (b - a) := by
  have e : nI b = nI a + nI (b - a) := by rw [r_ad]; exact congrArg nI (by omega)
  rw [e, ← Int32.sub_sub, Int32.sub_self]
theorem c_absN {m : xM} {a b : Nat} (ha : a ≤ 100) (hb : b ≤ 100) : fC 266 [.int (nI a - nI b)] m (fun rv m' => rv = some (.int (nI (mdf a b))) ∧ m = m') := by
  refine fC_of (by decide) (fun d n9 P H => ?_)
  replace H := f_iload_n H k266_0 rfl
  by_cases c : b ≤ a
  · rw [nI_sub (by omega) c] at H
    have e : mdf a b = a - b := if_pos c
    replace H := f_if_ge_t H k266_1 (by rw [show (0 : Int32) = nI 0 from rfl, nxle (by omega) (by omega)]; omega) (t := 9) (by decide)
    replace H := f_iload_n H k266_9 rfl
    replace H := f_iret H k266_10
    exact ⟨_, _, H, by rw [e], rfl⟩
  · have e : mdf a b = b - a := if_neg c
    obtain ⟨k, hk⟩ : ∃ k : Fin 101, k.val = b - a := ⟨⟨b - a, by omega⟩, rfl⟩
    obtain ⟨h1, h2⟩ := mdf_n k
    rw [mdf_s ha hb (by omega), ← hk] at H
    replace H := f_if_ge_f H k266_1 (h1 (by omega))
    replace H := f_iload_n H k266_4 rfl
    replace H := f_ineg H k266_5
    replace H := f_goto H k266_6 (t := 10) (by decide)
    rw [h2] at H
    replace H := f_iret H k266_10
    exact ⟨_, _, H, by rw [e, hk], rfl⟩
/-- how far apart the chapels are at a corner -/
def apPc (q : Nat → Bool) (ch : Nat → Nat) (c e : Nat) : Bool := q e && (ch e).testBit c
def apR (q : Nat → Bool) (ch : Nat → Nat) (c e : Nat) : Bool := q e && !((ch e).testBit c)
def apN (q : Nat → Bool) (ch : Nat → Nat) (c : Nat) : Nat := mdf (fa_cnt (apPc q ch c) 100) (fa_cnt (apR q ch c) 100)
theorem apPc_t {q : Nat → Bool} {ch : Nat → Nat} {c e : Nat} (h : q e = true) (h2 : (ch e).testBit c = true) : apPc q ch c e = true ∧ apR q ch c e = false := by
  unfold apPc apR
  rw [h, h2]
  exact ⟨rfl, rfl⟩
theorem apPc_f {q : Nat → Bool} {ch : Nat → Nat} {c e : Nat} (h : q e = true) (h2 : (ch e).testBit c = false) : apPc q ch c e = false ∧ apR q ch c e = true := by
  unfold apPc apR
  rw [h, h2]
  exact ⟨rfl, rfl⟩
theorem apPc_n {q : Nat → Bool} {ch : Nat → Nat} {c e : Nat} (h : q e = false) : apPc q ch c e = false ∧ apR q ch c e = false := by
  unfold apPc apR
  rw [h]
  exact ⟨rfl, rfl⟩
theorem ap_sum {q : Nat → Bool} {ch : Nat → Nat} {c : Nat} : ∀ e, fa_cnt q e = fa_cnt (apPc q ch c) e + fa_cnt (apR q ch c) e := by
  intro e
  induction e with
  | zero => rfl
  | succ e ih =>
    cases hq : q e with
    | false =>
      obtain ⟨h1, h2⟩ := apPc_n (ch := ch) (c := c) hq
      rw [fa_cnt_no hq, fa_cnt_no h1, fa_cnt_no h2]
      exact ih
    | true =>
      cases hb : (ch e).testBit c with
      | true =>
        obtain ⟨h1, h2⟩ := apPc_t (q := q) hq hb
        rw [fa_cnt_yes hq, fa_cnt_yes h1, fa_cnt_no h2]
        omega
      | false =>
        obtain ⟨h1, h2⟩ := apPc_f (q := q) hq hb
        rw [fa_cnt_yes hq, fa_cnt_no h1, fa_cnt_yes h2]
        omega
/-- from a place on to the next that counts -/
theorem cnt_nx {q p : Nat → Bool} (hp : ∀ e, q e = false → p e = false) : ∀ b r, r ≤ b → fa_cnt q r < fa_cnt q b → ∃ r2, r ≤ r2 ∧ r2 < b ∧ q r2 = true ∧ fa_cnt q r2 = fa_cnt q r ∧ fa_cnt p r2 = fa_cnt p r := by
  intro b
  induction b with
  | zero => exact fun r _ h => absurd h (Nat.not_lt_zero _)
  | succ b ih =>
    intro r hr h
    by_cases c : r = b + 1
    · rw [c] at h
      omega
    · by_cases c2 : fa_cnt q r < fa_cnt q b
      · obtain ⟨r2, h1, h2, h3⟩ := ih r (by omega) c2
        exact ⟨r2, h1, by omega, h3⟩
      · have h1 := cnt_lE (q := q) (show r ≤ b by omega)
        cases hq : q b with
        | false =>
          rw [fa_cnt_no hq] at h
          exact absurd h c2
        | true =>
          have fl : ∀ e, r ≤ e → e < b → q e = false := by
            intro e he1 he2
            cases hb : q e with
            | false => rfl
            | true =>
              have h3 := cnt_lt he2 hb
              have h4 := cnt_lE (q := q) he1
              omega
          exact ⟨b, by omega, by omega, hq, cnt_flat (by omega) fl, cnt_flat (by omega) (fun e he1 he2 => hp e (fl e he1 he2))⟩
theorem cnt_en {q p : Nat → Bool} (hp : ∀ e, q e = false → p e = false) {r b : Nat} (hr : r ≤ b) (h : fa_cnt q r = fa_cnt q b) : fa_cnt p b = fa_cnt p r := by
  refine cnt_flat hr (fun e he1 he2 => hp e ?_)
  cases hb : q e with
  | false => rfl
  | true =>
    have h3 := cnt_lt he2 hb
    have h4 := cnt_lE (q := q) he1
    omega
set_option maxHeartbeats 1000000 in
theorem c_apartBy {m : xM} {q : Nat → Bool} {ch : Nat → Nat} {c : Nat} (hr : rS m) (ho : gaO q ch m 100) (hc : c < 8) (hch : ∀ e, ch e < 256) : fC 65 [.ref 84, .int (nI c)] m (fun rv m' => rv = some (.int (nI (apN q ch c))) ∧ m = m') := by
  refine fC_of (by decide) (fun d n9 P H => ?_)
  have hn := fa_cnt_le q 100
  have lp : ∀ n9 r, r ≤ 100 → xF 65 (xw d) P n9 4 [(3, .int (nI (fa_cnt q r))), (2, .int (nI (fa_cnt (apPc q ch c) r))), (0, .ref 84), (1, .int (nI c))] [] m → ∃ rv m', P rv m' ∧ rv = some (.int (nI (apN q ch c))) ∧ m = m' := by
    intro n9
    induction n9 with
    | zero => exact fun r _ H => (xF_0 H).elim
    | succ n9 ih =>
      intro r hr1 H
      have b1 := fa_cnt_le q r
      have b2 := fa_cnt_le (apPc q ch c) r
      replace H := f1_iload_n H k65_4 rfl
      replace H := f_aload_n H k65_5 rfl
      replace H := f_gi H k65_6 (ci := 7) (f := 5) (by decide +kernel) (by decide)
      rw [ho.1] at H
      have Hbr := f_icmp_ge H k65_9 (t := 31) (by decide)
      clear H
      rcases Hbr with ⟨c0, H⟩ | ⟨c0, H⟩
      · rw [nxle (by omega) (by omega)] at c0
        have e1 : fa_cnt q r = fa_cnt q 100 := Nat.le_antisymm (cnt_lE hr1) c0
        have e2 := cnt_en (q := q) (p := apPc q ch c) (fun e h => (apPc_n h).1) hr1 e1
        have e3 := ap_sum (q := q) (ch := ch) (c := c) 100
        have b3 := fa_cnt_le (apPc q ch c) 100
        have b4 := fa_cnt_le (apR q ch c) 100
        replace H := f_iload_n H k65_31 rfl
        replace H := f_aload_n H k65_32 rfl
        replace H := f_gi H k65_33 (ci := 7) (f := 5) (by decide +kernel) (by decide)
        replace H := f_iload_n H k65_36 rfl
        replace H := f_isub H k65_37
        replace H := f_isub H k65_38
        rw [ho.1, ← e2, nI_sub (by omega) (by omega), show fa_cnt q 100 - fa_cnt (apPc q ch c) 100 = fa_cnt (apR q ch c) 100 by omega] at H
        obtain ⟨rv, m2, ⟨rfl, e9⟩, h9_39⟩ := f_ins H k65_39 (by decide +kernel) (as := [.int _]) (r := []) (by rfl) (c_absN b3 b4)
        replace H := h9_39
        rw [← e9] at H
        clear e9
        replace H := f_iret H k65_42
        exact ⟨_, _, H, rfl, rfl⟩
      · rw [nxle (by omega) (by omega)] at c0
        obtain ⟨s, h1, h2, h3, h4, h5⟩ := cnt_nx (q := q) (p := apPc q ch c) (fun e h => (apPc_n h).1) 100 r hr1 (by omega)
        obtain ⟨-, h6⟩ := ho.2 s h2 h3
        rw [h4] at h6
        have hcs := hch s
        replace H := f_iload_n H k65_12 rfl
        replace H := f_aload_n H k65_13 rfl
        replace H := f_gr H k65_14 (ci := 7) (f := 3) (x := 88) (by decide +kernel) (by decide) (hr 84 3 88 rfl)
        replace H := f_iload_n H k65_17 rfl
        have Hob := f_iald H k65_18 (c := 13) (by decide)
        clear H
        obtain ⟨hb18, H⟩ := Hob
        replace H := f_iload_n H k65_19 rfl
        replace H := f_ishr H k65_20
        replace H := f_iconst H k65_21 (v := 1) (by decide)
        replace H := f_iand H k65_22
        replace H := f_iadd H k65_23
        rw [nI_clamp (by omega), h6, has_n (by omega) (by omega)] at H
        have e4 : nI (fa_cnt (apPc q ch c) r) + (if (ch s).testBit c = true then (1 : Int32) else 0) = nI (fa_cnt (apPc q ch c) (s + 1)) := by
          cases hb : (ch s).testBit c with
          | true =>
            rw [fa_cnt_yes (apPc_t h3 hb).1, h5]
            exact nI_s _
          | false =>
            rw [fa_cnt_no (apPc_f h3 hb).1, h5]
            exact Int32.add_zero _
        rw [e4] at H
        replace H := f_istore_n H k65_24 (l2 := [(2, .int (nI (fa_cnt (apPc q ch c) (s + 1)))), (3, .int (nI (fa_cnt q r))), (0, .ref 84), (1, .int (nI c))]) rfl
        replace H := f_iinc H k65_25 rfl (l2 := [(3, .int (nI (fa_cnt q r) + 1)), (2, .int (nI (fa_cnt (apPc q ch c) (s + 1)))), (0, .ref 84), (1, .int (nI c))]) rfl
        replace H := f_goto H k65_28 (t := 4) (by decide)
        rw [nI_s, show fa_cnt q r + 1 = fa_cnt q (s + 1) by rw [fa_cnt_yes h3, h4]] at H
        exact ih (s + 1) (by omega) H
  replace H := f_iconst H k65_0 (v := 0) (by decide)
  replace H := f_istore_n H k65_1 (l2 := [(2, .int 0), (0, .ref 84), (1, .int (nI c))]) rfl
  replace H := f_iconst H k65_2 (v := 0) (by decide)
  replace H := f_istore_n H k65_3 (l2 := [(3, .int 0), (2, .int 0), (0, .ref 84), (1, .int (nI c))]) rfl
  replace H := f_ext H (l' := [(3, .int (nI (fa_cnt q 0))), (2, .int (nI (fa_cnt (apPc q ch c) 0))), (0, .ref 84), (1, .int (nI c))]) (lE_cons rfl (lE_cons rfl (lE_cons rfl (lE_cons rfl (lE_nil))))) rfl rfl
  exact lp _ 0 (by decide) H
/-- the corner least apart, the lowest of several -/
def akN (ap : Nat → Nat) : Nat → Nat
  | 0 => 0
  | c + 1 => if c = 0 ∨ ap c < ap (akN ap c) then c else akN ap c
theorem akN_t {ap : Nat → Nat} {c : Nat} (h : c = 0 ∨ ap c < ap (akN ap c)) : akN ap (c + 1) = c := if_pos h
theorem akN_f {ap : Nat → Nat} {c : Nat} (h : ¬ (c = 0 ∨ ap c < ap (akN ap c))) : akN ap (c + 1) = akN ap c := if_neg h
theorem akN_lt {ap : Nat → Nat} : ∀ c, akN ap (c + 1) ≤ c := by
  intro c
  induction c with
  | zero =>
    rw [akN_t (Or.inl rfl)]
    exact Nat.le_refl _
  | succ c ih =>
    by_cases h : c + 1 = 0 ∨ ap (c + 1) < ap (akN ap (c + 1))
    · rw [akN_t h]
      exact Nat.le_refl _
    · rw [akN_f h]
      omega
def akI (ap : Nat → Nat) (c : Nat) : Int32 := if c = 0 then -1 else nI (akN ap c)
def akJ (ap : Nat → Nat) (c : Nat) : Int32 := if c = 0 then 0 else nI (ap (akN ap c))
def akV (C : Nat) (q : Nat → Bool) (ch : Nat → Nat) (v : Int32) : Prop := (0 < C ∧ fa_cnt q 100 ≠ 0 ∧ v = nI (akN (apN q ch) C)) ∨ (¬ (0 < C ∧ fa_cnt q 100 ≠ 0) ∧ v = -1)
theorem akV_1 {C : Nat} {q : Nat → Bool} {ch : Nat → Nat} {v u : Int32} (h : akV C q ch v) (g : akV C q ch u) : v = u := by
  rcases h with ⟨h1, h2, h3⟩ | ⟨h1, h2⟩
  · rcases g with ⟨g1, g2, g3⟩ | ⟨g1, g2⟩
    · exact h3.trans g3.symm
    · exact absurd ⟨h1, h2⟩ g1
  · rcases g with ⟨g1, g2, g3⟩ | ⟨g1, g2⟩
    · exact absurd ⟨g1, g2⟩ h1
    · exact h2.trans g2.symm
theorem apN_le {q : Nat → Bool} {ch : Nat → Nat} {c : Nat} : apN q ch c ≤ 100 := by
  have h1 := fa_cnt_le (apPc q ch c) 100
  have h2 := fa_cnt_le (apR q ch c) 100
  unfold apN mdf
  split <;> omega
set_option maxHeartbeats 1000000 in
theorem c_ask {m : xM} {C S w K : Nat} {A B Y : Nat → Nat} {cs : Nat → Nat} {fs : Nat → Bool} (hr : rS m) (hT : xT m C S A B Y) (hw : m.1 89 0 = nI w) (hw2 : w < 65536) (hg : sgX m K cs fs) : fC 138 [.ref 0] m (fun rv m' => ∃ v, rv = some (.int v) ∧ akV C (cdQ C S A B w K cs fs) (cdV C S A B w) v) := by
  refine fC_of (by decide) (fun d n9 P H => ?_)
  have hC8 : C ≤ 8 := hT.2.2.1
  replace H := f_aload_n H k138_0 rfl
  obtain ⟨rv, m3, ⟨ho, e3⟩, h9_1⟩ := f_inv H k138_1 (by decide +kernel) (as := []) (b := 0) (r := []) (by rfl) (c_hasTown hr hT.1 (by omega))
  replace H := h9_1
  rw [← e3] at H
  clear e3
  rcases ho with ⟨c0, rfl⟩ | ⟨c0, rfl⟩
  case inr =>
    replace H := f_if_eq_t H k138_4 rfl (t := 28) (by decide)
    replace H := f_iconst H k138_28 (v := -1) (by decide)
    replace H := f_iret H k138_29
    exact ⟨_, _, H, _, rfl, Or.inr ⟨fun q => by have := q.1; omega, rfl⟩⟩
  replace H := f_if_eq_f H k138_4 (by decide)
  replace H := f_aload_n H k138_7 rfl
  replace H := f_gr H k138_8 (ci := 11) (f := 8) (x := 84) (by decide +kernel) (by decide) (hr 0 8 84 rfl)
  replace H := f_aload_n H k138_11 rfl
  replace H := f_gr H k138_12 (ci := 11) (f := 1) (x := 3) (by decide +kernel) (by decide) (hr 0 1 3 rfl)
  replace H := f_aload_n H k138_15 rfl
  replace H := f_gr H k138_16 (ci := 11) (f := 9) (x := 89) (by decide +kernel) (by decide) (hr 0 9 89 rfl)
  replace H := f_gi H k138_19 (ci := 6) (f := 0) (by decide +kernel) (by decide)
  rw [hw] at H
  obtain ⟨rv, m5, ⟨rfl, hr5, hf5, ho5⟩, h9_22⟩ := f_inv H k138_22 (by decide +kernel) (as := [.ref 3, .int _]) (b := 84) (r := []) (by rfl) (c_gather hr hT hw2 hg)
  replace H := h9_22
  have hC5 : m5.1 3 0 = nI C := by rw [hf5 3 0 (by omega) (by omega) (by omega)]; exact hT.1
  have hch : ∀ e, cdV C S A B w e < 256 := fun e => cdV_lt hC8
  obtain ⟨q, hq⟩ : ∃ q, q = cdQ C S A B w K cs fs := ⟨_, rfl⟩
  obtain ⟨ch, hc⟩ : ∃ ch, ch = cdV C S A B w := ⟨_, rfl⟩
  rw [← hq, ← hc] at ho5
  rw [← hq] at H
  rw [← hc] at hch
  rw [← hq, ← hc]
  have hn100 := fa_cnt_le q 100
  have Hbr := f_if_ne H k138_25 (t := 30) (by decide)
  clear H
  rcases Hbr with ⟨c1, H⟩ | ⟨c1, H⟩
  · rw [show (0 : Int32) = nI 0 from rfl, nI_inj (by omega) (by omega)] at c1
    have lp : ∀ n9 e v4, e ≤ C → xF 138 (xw d) P n9 36 [(3, .int (nI e)), (2, .int (akJ (apN q ch) e)), (1, .int (akI (apN q ch) e)), (0, .ref 0), (4, .int v4)] [] m5 → ∃ rv m', P rv m' ∧ ∃ v, rv = some (.int v) ∧ akV C q ch v := by
      intro n9
      induction n9 with
      | zero => exact fun e v4 _ H => (xF_0 H).elim
      | succ n9 ih =>
        intro e v4 he H
        have hr := hr5
        replace H := f1_iload_n H k138_36 rfl
        replace H := f_aload_n H k138_37 rfl
        replace H := f_gr H k138_38 (ci := 11) (f := 1) (x := 3) (by decide +kernel) (by decide) (hr 0 1 3 rfl)
        replace H := f_gi H k138_41 (ci := 5) (f := 0) (by decide +kernel) (by decide)
        rw [hC5] at H
        have Hbr := f_icmp_ge H k138_44 (t := 79) (by decide)
        clear H
        rcases Hbr with ⟨c2, H⟩ | ⟨c2, H⟩
        · rw [nxle (by omega) (by omega)] at c2
          have ee : e = C := by omega
          replace H := f_iload_n H k138_79 rfl
          replace H := f_iret H k138_80
          exact ⟨_, _, H, _, rfl, Or.inl ⟨c0, c1, by rw [ee]; exact if_neg (by omega)⟩⟩
        · rw [nxle (by omega) (by omega)] at c2
          have a100 := apN_le (q := q) (ch := ch) (c := e)
          have b100 := apN_le (q := q) (ch := ch) (c := akN (apN q ch) e)
          replace H := f_aload_n H k138_47 rfl
          replace H := f_gr H k138_48 (ci := 11) (f := 8) (x := 84) (by decide +kernel) (by decide) (hr 0 8 84 rfl)
          replace H := f_iload_n H k138_51 rfl
          obtain ⟨rv, m7, ⟨rfl, e3⟩, h9_52⟩ := f_inv H k138_52 (by decide +kernel) (as := [.int _]) (b := 84) (r := []) (by rfl) (c_apartBy hr ho5 (by omega) hch)
          replace H := h9_52
          rw [← e3] at H
          clear e3
          replace H := f_istore H k138_55 (l2 := [(4, .int (nI (apN q ch e))), (3, .int (nI e)), (2, .int (akJ (apN q ch) e)), (1, .int (akI (apN q ch) e)), (0, .ref 0)]) rfl
          replace H := f_iload_n H k138_57 rfl
          replace H := f_iconst H k138_58 (v := -1) (by decide)
          have yes : (e = 0 ∨ apN q ch e < apN q ch (akN (apN q ch) e)) → xF 138 (xw d) P n9 68 [(4, .int (nI (apN q ch e))), (3, .int (nI e)), (2, .int (akJ (apN q ch) e)), (1, .int (akI (apN q ch) e)), (0, .ref 0)] [] m5 → ∃ rv m', P rv m' ∧ ∃ v, rv = some (.int v) ∧ akV C q ch v := by
            intro h9 H
            have e1 : akI (apN q ch) (e + 1) = nI e := by
              show (if e + 1 = 0 then (-1 : Int32) else nI (akN (apN q ch) (e + 1))) = nI e
              rw [if_neg (by omega), akN_t h9]
            have e2 : akJ (apN q ch) (e + 1) = nI (apN q ch e) := by
              show (if e + 1 = 0 then (0 : Int32) else nI (apN q ch (akN (apN q ch) (e + 1)))) = nI (apN q ch e)
              rw [if_neg (by omega), akN_t h9]
            replace H := f_iload_n H k138_68 rfl
            replace H := f_istore_n H k138_69 (l2 := [(1, .int (nI e)), (4, .int (nI (apN q ch e))), (3, .int (nI e)), (2, .int (akJ (apN q ch) e)), (0, .ref 0)]) rfl
            replace H := f_iload H k138_70 rfl
            replace H := f_istore_n H k138_72 (l2 := [(2, .int (nI (apN q ch e))), (1, .int (nI e)), (4, .int (nI (apN q ch e))), (3, .int (nI e)), (0, .ref 0)]) rfl
            replace H := f_iinc H k138_73 rfl (l2 := [(3, .int (nI e + 1)), (2, .int (nI (apN q ch e))), (1, .int (nI e)), (4, .int (nI (apN q ch e))), (0, .ref 0)]) rfl
            replace H := f_goto H k138_76 (t := 36) (by decide)
            rw [nI_s] at H
            replace H := f_ext H (l' := [(3, .int (nI (e + 1))), (2, .int (nI (apN q ch e))), (1, .int (nI e)), (0, .ref 0), (4, .int (nI (apN q ch e)))]) (lE_cons rfl (lE_cons rfl (lE_cons rfl (lE_cons rfl (lE_cons rfl (lE_nil)))))) rfl rfl
            rw [← e1, ← e2] at H
            exact ih (e + 1) _ (by omega) H
          have no : ¬ (e = 0 ∨ apN q ch e < apN q ch (akN (apN q ch) e)) → xF 138 (xw d) P n9 73 [(4, .int (nI (apN q ch e))), (3, .int (nI e)), (2, .int (akJ (apN q ch) e)), (1, .int (akI (apN q ch) e)), (0, .ref 0)] [] m5 → ∃ rv m', P rv m' ∧ ∃ v, rv = some (.int v) ∧ akV C q ch v := by
            intro h9 H
            have e1 : akI (apN q ch) (e + 1) = akI (apN q ch) e := by
              show (if e + 1 = 0 then (-1 : Int32) else nI (akN (apN q ch) (e + 1))) = (if e = 0 then (-1 : Int32) else nI (akN (apN q ch) e))
              rw [if_neg (by omega), if_neg (by omega), akN_f h9]
            have e2 : akJ (apN q ch) (e + 1) = akJ (apN q ch) e := by
              show (if e + 1 = 0 then (0 : Int32) else nI (apN q ch (akN (apN q ch) (e + 1)))) = (if e = 0 then (0 : Int32) else nI (apN q ch (akN (apN q ch) e)))
              rw [if_neg (by omega), if_neg (by omega), akN_f h9]
            replace H := f_iinc H k138_73 rfl (l2 := [(3, .int (nI e + 1)), (4, .int (nI (apN q ch e))), (2, .int (akJ (apN q ch) e)), (1, .int (akI (apN q ch) e)), (0, .ref 0)]) rfl
            replace H := f_goto H k138_76 (t := 36) (by decide)
            rw [nI_s] at H
            replace H := f_ext H (l' := [(3, .int (nI (e + 1))), (2, .int (akJ (apN q ch) e)), (1, .int (akI (apN q ch) e)), (0, .ref 0), (4, .int (nI (apN q ch e)))]) (lE_cons rfl (lE_cons rfl (lE_cons rfl (lE_cons rfl (lE_cons rfl (lE_nil)))))) rfl rfl
            rw [← e1, ← e2] at H
            exact ih (e + 1) _ (by omega) H
          by_cases z0 : e = 0
          · replace H := f_icmp_eq_t H k138_59 (by rw [z0]; rfl) (t := 68) (by decide)
            exact yes (Or.inl z0) H
          · have i1 : akI (apN q ch) e = nI (akN (apN q ch) e) := if_neg z0
            have i2 : akJ (apN q ch) e = nI (apN q ch (akN (apN q ch) e)) := if_neg z0
            have i3 := akN_lt (ap := apN q ch) (e - 1)
            rw [show e - 1 + 1 = e by omega] at i3
            replace H := f_icmp_eq_f H k138_59 (by rw [i1]; exact nI_ne1 (by omega))
            replace H := f_iload H k138_62 rfl
            replace H := f_iload_n H k138_64 rfl
            have Hbr := f_icmp_ge H k138_65 (t := 73) (by decide)
            clear H
            rcases Hbr with ⟨c5, H⟩ | ⟨c5, H⟩
            · rw [i2, nxle (by omega) (by omega)] at c5
              exact no (fun h => by rcases h with h | h <;> omega) H
            · rw [i2, nxle (by omega) (by omega)] at c5
              exact yes (Or.inr (by omega)) H
    replace H := f_iconst H k138_30 (v := -1) (by decide)
    replace H := f_istore_n H k138_31 (l2 := [(1, .int (-1)), (0, .ref 0)]) rfl
    replace H := f_iconst H k138_32 (v := 0) (by decide)
    replace H := f_istore_n H k138_33 (l2 := [(2, .int 0), (1, .int (-1)), (0, .ref 0)]) rfl
    replace H := f_iconst H k138_34 (v := 0) (by decide)
    replace H := f_istore_n H k138_35 (l2 := [(3, .int 0), (2, .int 0), (1, .int (-1)), (0, .ref 0)]) rfl
    replace H := f_ext H (l' := [(3, .int (nI 0)), (2, .int (akJ (apN q ch) 0)), (1, .int (akI (apN q ch) 0)), (0, .ref 0), (4, .int 0)]) (lE_cons rfl (lE_cons rfl (lE_cons rfl (lE_cons rfl (lE_nil))))) rfl rfl
    exact lp _ 0 _ (Nat.zero_le _) H
  · rw [show (0 : Int32) = nI 0 from rfl, nI_inj (by omega) (by omega)] at c1
    replace H := f_iconst H k138_28 (v := -1) (by decide)
    replace H := f_iret H k138_29
    exact ⟨_, _, H, _, rfl, Or.inr ⟨fun h => h.2 c1, rfl⟩⟩
def apI (q : Nat → Bool) (ch : Nat → Nat) (c e : Nat) : Int32 := nI (fa_cnt (apPc q ch c) e) - nI (fa_cnt (apR q ch c) e)
theorem ap_pl (x y : Int32) : x - y + 1 = x + 1 - y := by
  rw [Int32.sub_eq_add_neg, Int32.sub_eq_add_neg, Int32.add_assoc, Int32.add_comm (-y) 1, Int32.add_assoc]
theorem ap_mn (x y : Int32) : x - y + -1 = x - (y + 1) := by
  rw [← Int32.sub_sub, Int32.sub_eq_add_neg (x - y) 1]
theorem apI_t {q : Nat → Bool} {ch : Nat → Nat} {c e : Nat} (h : q e = true) (h2 : (ch e).testBit c = true) : apI q ch c e + 1 = apI q ch c (e + 1) := by
  obtain ⟨h3, h4⟩ := apPc_t (q := q) h h2
  unfold apI
  rw [fa_cnt_yes h3, fa_cnt_no h4, ap_pl, nI_s]
theorem apI_f {q : Nat → Bool} {ch : Nat → Nat} {c e : Nat} (h : q e = true) (h2 : (ch e).testBit c = false) : apI q ch c e + -1 = apI q ch c (e + 1) := by
  obtain ⟨h3, h4⟩ := apPc_f (q := q) h h2
  unfold apI
  rw [fa_cnt_no h3, fa_cnt_yes h4, ap_mn, nI_s]
theorem apI_n {q : Nat → Bool} {ch : Nat → Nat} {c e : Nat} (h : q e = false) : apI q ch c e = apI q ch c (e + 1) := by
  obtain ⟨h3, h4⟩ := apPc_n (ch := ch) (c := c) h
  unfold apI
  rw [fa_cnt_no h3, fa_cnt_no h4]
def fnI (q : Nat → Bool) (e : Nat) : Int32 := if fa_cnt q e = 0 then 0 else 1
theorem fnI_y {q : Nat → Bool} {e : Nat} (h : q e = true) : (1 : Int32) = fnI q (e + 1) := by
  unfold fnI
  rw [fa_cnt_yes h, if_neg (by omega)]
theorem fnI_n {q : Nat → Bool} {e : Nat} (h : q e = false) : fnI q e = fnI q (e + 1) := by
  unfold fnI
  rw [fa_cnt_no h]
theorem cdQ_w {C S : Nat} {A B : Nat → Nat} {w K : Nat} {cs : Nat → Nat} {fs : Nat → Bool} {e : Nat} (hS : S ≤ 12) (h : cdQ C S A B w K cs fs e = true) : e = 99 ∨ (e < 16 ∧ w.testBit e = true) := by
  by_cases c : e = 99
  · exact Or.inl c
  · by_cases c2 : e < S ∧ w.testBit e = true
    · exact Or.inr ⟨Nat.lt_of_lt_of_le c2.1 (by omega), c2.2⟩
    · rw [cdQ_out c c2] at h
      cases h
set_option maxHeartbeats 2000000 in
theorem c_mwhere {m : xM} {C S w K : Nat} {A B Y : Nat → Nat} {cs : Nat → Nat} {fs : Nat → Bool} (hr : rS m) (hT : mT m C S A B Y) (hCS : C = 0 ↔ S = 0) (hw : m.1 326 24 = nI w) (hw2 : w < 65536) (hg : sgM m K cs fs) : fC 238 [.ref 314] m (fun rv m' => ∃ v, rv = some (.int v) ∧ akV C (cdQ C S A B w K cs fs) (cdV C S A B w) v) := by
  refine fC_of (by decide) (fun d n9 P H => ?_)
  have e99 : (99 : Int32) = nI 99 := rfl
  have hC8 : C ≤ 8 := hT.2.2.1
  have hS12 : S ≤ 12 := hT.2.2.2.1
  replace H := f_aload_n H k238_0 rfl
  replace H := f_iconst H k238_1 (v := 0) (by decide)
  replace H := f_put_i H k238_2 (ci := 12) (f := 0) (by decide +kernel) (by decide)
  have hr : rS (mI m 314 0 0) := hr
  have hT : mT (mI m 314 0 0) C S A B Y := mT_f hT (fun i => ⟨⟨mI_ne (by omega), mI_ne (by omega)⟩, mI_ne (by omega)⟩)
  have hw : (mI m 314 0 0).1 326 24 = nI w := by rw [mI_ne (by omega)]; exact hw
  have hg : sgM (mI m 314 0 0) K cs fs := ⟨by rw [mI_ne (by omega)]; exact hg.1, hg.2.1, fun j hj => by rw [mI_ne (by omega), mI_ne (by omega)]; exact hg.2.2 j hj⟩
  generalize hm1 : mI m 314 0 0 = m1 at *
  have could : ∀ e, e < 100 → fC 236 [.ref 314, .int (nI e)] m1 (fun rv m' => rv = some (.int (sgI9 (cdQ C S A B w K cs fs e))) ∧ m1 = m') := fun e he => c_couldBe hr hT hw hw2 hg he
  have wby : ∀ e, cdQ C S A B w K cs fs e = true → e = 99 ∨ (e < 16 ∧ w.testBit e = true) := fun e h => cdQ_w hS12 h
  have hch : ∀ e, cdV C S A B w e < 256 := fun e => cdV_lt hC8
  have chps : ∀ e, cdW w e < 65536 → fC 197 [.ref 314, .int (nI (cdW w e))] m1 (fun rv m' => rv = some (.int (nI (cdV C S A B w e))) ∧ m1 = m') := fun e he => c_mchapels hr hT he
  obtain ⟨q, hq⟩ : ∃ q, q = cdQ C S A B w K cs fs := ⟨_, rfl⟩
  obtain ⟨ch, hc⟩ : ∃ ch, ch = cdV C S A B w := ⟨_, rfl⟩
  rw [← hq] at could wby
  rw [← hc] at hch chps
  rw [← hq, ← hc]
  have hn100 := fa_cnt_le q 100
  replace H := f_aload_n H k238_5 rfl
  replace H := f_gi H k238_6 (ci := 12) (f := 26) (by decide +kernel) (by decide)
  rw [hT.2.1] at H
  have Hbr := f_if_ne H k238_9 (t := 14) (by decide)
  clear H
  rcases Hbr with ⟨c0, H⟩ | ⟨c0, H⟩
  · rw [show (0 : Int32) = nI 0 from rfl, nI_inj (by omega) (by omega)] at c0
    have c9 : 0 < C := by
      rcases Nat.eq_zero_or_pos C with h | h
      · exact absurd (hCS.mp h) c0
      · exact h
    have lp : ∀ n9 c v4 v5 v6, c ≤ C → (c = 0 ∨ fa_cnt q 100 ≠ 0) → xF 238 (xw d) P n9 20 [(3, .int (nI c)), (2, .int (akJ (apN q ch) c)), (1, .int (akI (apN q ch) c)), (0, .ref 314), (4, .int v4), (5, .int v5), (6, .int v6)] [] m1 → ∃ rv m', P rv m' ∧ ∃ v, rv = some (.int v) ∧ akV C q ch v := by
      intro n9
      induction n9 with
      | zero => exact fun c v4 v5 v6 _ _ H => (xF_0 H).elim
      | succ n9 ih =>
        intro c v4 v5 v6 hc9 hcn H
        have a100 := apN_le (q := q) (ch := ch) (c := c)
        have b100 := apN_le (q := q) (ch := ch) (c := akN (apN q ch) c)
        have kk : ∀ v6, xF 238 (xw d) P n9 92 [(6, .int v6), (5, .int (fnI q 100)), (4, .int (apI q ch c 100)), (3, .int (nI c)), (2, .int (akJ (apN q ch) c)), (1, .int (akI (apN q ch) c)), (0, .ref 314)] [] m1 → c < C → ∃ rv m', P rv m' ∧ ∃ v, rv = some (.int v) ∧ akV C q ch v := by
          intro v6 H hlt
          by_cases hz : fa_cnt q 100 = 0
          · rw [show fnI q 100 = 0 from if_pos hz] at H
            replace H := f_iload H k238_92 rfl
            replace H := f_if_ne_f H k238_94 (by decide)
            replace H := f_iconst H k238_97 (v := -1) (by decide)
            replace H := f_iret H k238_98
            exact ⟨_, _, H, _, rfl, Or.inr ⟨fun h => h.2 hz, rfl⟩⟩
          · rw [show fnI q 100 = 1 from if_neg hz] at H
            replace H := f_iload H k238_92 rfl
            replace H := f_if_ne_t H k238_94 (by decide) (t := 99) (by decide)
            replace H := f_iload H k238_99 rfl
            obtain ⟨rv, m2, ⟨rfl, e3⟩, h9_101⟩ := f_ins H k238_101 (by decide +kernel) (as := [.int _]) (r := []) (by rfl) (c_absN (fa_cnt_le (apPc q ch c) 100) (fa_cnt_le (apR q ch c) 100))
            replace H := h9_101
            rw [← e3] at H
            clear e3
            rw [show mdf (fa_cnt (apPc q ch c) 100) (fa_cnt (apR q ch c) 100) = apN q ch c from rfl] at H
            replace H := f_istore H k238_104 (l2 := [(4, .int (nI (apN q ch c))), (6, .int v6), (5, .int 1), (3, .int (nI c)), (2, .int (akJ (apN q ch) c)), (1, .int (akI (apN q ch) c)), (0, .ref 314)]) rfl
            replace H := f_iload_n H k238_106 rfl
            replace H := f_iconst H k238_107 (v := -1) (by decide)
            have yes : (c = 0 ∨ apN q ch c < apN q ch (akN (apN q ch) c)) → xF 238 (xw d) P n9 120 [(4, .int (nI (apN q ch c))), (6, .int v6), (5, .int 1), (3, .int (nI c)), (2, .int (akJ (apN q ch) c)), (1, .int (akI (apN q ch) c)), (0, .ref 314)] [] m1 → ∃ rv m', P rv m' ∧ ∃ v, rv = some (.int v) ∧ akV C q ch v := by
              intro h9 H
              have e1 : akI (apN q ch) (c + 1) = nI c := by
                show (if c + 1 = 0 then (-1 : Int32) else nI (akN (apN q ch) (c + 1))) = nI c
                rw [if_neg (by omega), akN_t h9]
              have e2 : akJ (apN q ch) (c + 1) = nI (apN q ch c) := by
                show (if c + 1 = 0 then (0 : Int32) else nI (apN q ch (akN (apN q ch) (c + 1)))) = nI (apN q ch c)
                rw [if_neg (by omega), akN_t h9]
              replace H := f_iload_n H k238_120 rfl
              replace H := f_istore_n H k238_121 (l2 := [(1, .int (nI c)), (4, .int (nI (apN q ch c))), (6, .int v6), (5, .int 1), (3, .int (nI c)), (2, .int (akJ (apN q ch) c)), (0, .ref 314)]) rfl
              replace H := f_iload H k238_122 rfl
              replace H := f_istore_n H k238_124 (l2 := [(2, .int (nI (apN q ch c))), (1, .int (nI c)), (4, .int (nI (apN q ch c))), (6, .int v6), (5, .int 1), (3, .int (nI c)), (0, .ref 314)]) rfl
              replace H := f_iinc H k238_125 rfl (l2 := [(3, .int (nI c + 1)), (2, .int (nI (apN q ch c))), (1, .int (nI c)), (4, .int (nI (apN q ch c))), (6, .int v6), (5, .int 1), (0, .ref 314)]) rfl
              replace H := f_goto H k238_128 (t := 20) (by decide)
              rw [nI_s] at H
              replace H := f_ext H (l' := [(3, .int (nI (c + 1))), (2, .int (nI (apN q ch c))), (1, .int (nI c)), (0, .ref 314), (4, .int (nI (apN q ch c))), (5, .int 1), (6, .int v6)]) (lE_cons rfl (lE_cons rfl (lE_cons rfl (lE_cons rfl (lE_cons rfl (lE_cons rfl (lE_cons rfl (lE_nil)))))))) rfl rfl
              rw [← e1, ← e2] at H
              exact ih (c + 1) _ _ _ (by omega) (Or.inr hz) H
            have no : ¬ (c = 0 ∨ apN q ch c < apN q ch (akN (apN q ch) c)) → xF 238 (xw d) P n9 125 [(4, .int (nI (apN q ch c))), (6, .int v6), (5, .int 1), (3, .int (nI c)), (2, .int (akJ (apN q ch) c)), (1, .int (akI (apN q ch) c)), (0, .ref 314)] [] m1 → ∃ rv m', P rv m' ∧ ∃ v, rv = some (.int v) ∧ akV C q ch v := by
              intro h9 H
              have e1 : akI (apN q ch) (c + 1) = akI (apN q ch) c := by
                show (if c + 1 = 0 then (-1 : Int32) else nI (akN (apN q ch) (c + 1))) = (if c = 0 then (-1 : Int32) else nI (akN (apN q ch) c))
                rw [if_neg (by omega), if_neg (by omega), akN_f h9]
              have e2 : akJ (apN q ch) (c + 1) = akJ (apN q ch) c := by
                show (if c + 1 = 0 then (0 : Int32) else nI (apN q ch (akN (apN q ch) (c + 1)))) = (if c = 0 then (0 : Int32) else nI (apN q ch (akN (apN q ch) c)))
                rw [if_neg (by omega), if_neg (by omega), akN_f h9]
              replace H := f_iinc H k238_125 rfl (l2 := [(3, .int (nI c + 1)), (4, .int (nI (apN q ch c))), (6, .int v6), (5, .int 1), (2, .int (akJ (apN q ch) c)), (1, .int (akI (apN q ch) c)), (0, .ref 314)]) rfl
              replace H := f_goto H k238_128 (t := 20) (by decide)
              rw [nI_s] at H
              replace H := f_ext H (l' := [(3, .int (nI (c + 1))), (2, .int (akJ (apN q ch) c)), (1, .int (akI (apN q ch) c)), (0, .ref 314), (4, .int (nI (apN q ch c))), (5, .int 1), (6, .int v6)]) (lE_cons rfl (lE_cons rfl (lE_cons rfl (lE_cons rfl (lE_cons rfl (lE_cons rfl (lE_cons rfl (lE_nil)))))))) rfl rfl
              rw [← e1, ← e2] at H
              exact ih (c + 1) _ _ _ (by omega) (Or.inr hz) H
            by_cases z0 : c = 0
            · replace H := f_icmp_eq_t H k238_108 (by rw [z0]; rfl) (t := 120) (by decide)
              exact yes (Or.inl z0) H
            · have i1 : akI (apN q ch) c = nI (akN (apN q ch) c) := if_neg z0
              have i2 : akJ (apN q ch) c = nI (apN q ch (akN (apN q ch) c)) := if_neg z0
              have i3 := akN_lt (ap := apN q ch) (c - 1)
              rw [show c - 1 + 1 = c by omega] at i3
              replace H := f_icmp_eq_f H k238_108 (by rw [i1]; exact nI_ne1 (by omega))
              replace H := f_iload H k238_111 rfl
              replace H := f_iload_n H k238_113 rfl
              have Hbr := f_icmp_lt H k238_114 (t := 120) (by decide)
              clear H
              rcases Hbr with ⟨c5, H⟩ | ⟨c5, H⟩
              · rw [i2, nxlt (by omega) (by omega)] at c5
                exact yes (Or.inr c5) H
              · rw [i2, nxlt (by omega) (by omega)] at c5
                replace H := f_goto H k238_117 (t := 125) (by decide)
                exact no (fun h => by rcases h with h | h <;> omega) H
        have inn : ∀ N e, N ≤ n9 → e ≤ 100 → c < C → xF 238 (xw d) P N 37 [(6, .int (nI e)), (5, .int (fnI q e)), (4, .int (apI q ch c e)), (3, .int (nI c)), (2, .int (akJ (apN q ch) c)), (1, .int (akI (apN q ch) c)), (0, .ref 314)] [] m1 → ∃ rv m', P rv m' ∧ ∃ v, rv = some (.int v) ∧ akV C q ch v := by
          intro N
          induction N with
          | zero => exact fun e _ _ _ H => (xF_0 H).elim
          | succ N ih2 =>
            intro e hN he hlt H
            replace H := f1_iload H k238_37 rfl
            replace H := f_bipush H k238_39 (v := 99) (by decide)
            rw [e99] at H
            have Hbr := f_icmp_gt H k238_41 (t := 92) (by decide)
            clear H
            rcases Hbr with ⟨c2, H⟩ | ⟨c2, H⟩
            · rw [nxlt (by omega) (by omega)] at c2
              have ee : e = 100 := by omega
              rw [ee] at H
              exact kk _ (f_up H (by omega)) hlt
            · rw [nxlt (by omega) (by omega)] at c2
              have nxt : xF 238 (xw d) P N 86 [(6, .int (nI e)), (5, .int (fnI q (e + 1))), (4, .int (apI q ch c (e + 1))), (3, .int (nI c)), (2, .int (akJ (apN q ch) c)), (1, .int (akI (apN q ch) c)), (0, .ref 314)] [] m1 → ∃ rv m', P rv m' ∧ ∃ v, rv = some (.int v) ∧ akV C q ch v := by
                intro H
                replace H := f_iinc H k238_86 rfl (l2 := [(6, .int (nI e + 1)), (5, .int (fnI q (e + 1))), (4, .int (apI q ch c (e + 1))), (3, .int (nI c)), (2, .int (akJ (apN q ch) c)), (1, .int (akI (apN q ch) c)), (0, .ref 314)]) rfl
                replace H := f_goto H k238_89 (t := 37) (by decide)
                rw [nI_s] at H
                exact ih2 (e + 1) (by omega) (by omega) hlt H
              replace H := f_aload_n H k238_44 rfl
              replace H := f_iload H k238_45 rfl
              obtain ⟨rv, m5, ⟨rfl, e3⟩, h9_47⟩ := f_inv H k238_47 (by decide +kernel) (as := [.int _]) (b := 314) (r := []) (by rfl) (could e (by omega))
              replace H := h9_47
              rw [← e3] at H
              clear e3
              cases hb : q e with
              | false =>
                rw [hb] at H
                replace H := f_if_ne_f H k238_50 (by decide)
                replace H := f_goto H k238_53 (t := 86) (by decide)
                rw [fnI_n hb, apI_n hb] at H
                exact nxt H
              | true =>
                rw [hb] at H
                have hwe := wby e hb
                have hwl := cdW_lt hw2 (show e = 99 ∨ e < 16 by
                  rcases hwe with h | h
                  · exact Or.inl h
                  · exact Or.inr h.1)
                have hce := hch e
                replace H := f_if_ne_t H k238_50 (by decide) (t := 56) (by decide)
                replace H := f_iconst H k238_56 (v := 1) (by decide)
                replace H := f_istore H k238_57 (l2 := [(5, .int 1), (6, .int (nI e)), (4, .int (apI q ch c e)), (3, .int (nI c)), (2, .int (akJ (apN q ch) c)), (1, .int (akI (apN q ch) c)), (0, .ref 314)]) rfl
                replace H := f_iload H k238_59 rfl
                replace H := f_aload_n H k238_61 rfl
                replace H := f_aload_n H k238_62 rfl
                replace H := f_iload H k238_63 rfl
                obtain ⟨rv, m6, ⟨rfl, e3⟩, h9_65⟩ := f_inv H k238_65 (by decide +kernel) (as := [.int _]) (b := 314) (r := [.ref 314, .int _]) (by rfl) (c_wallsBy hr hw hwe)
                replace H := h9_65
                rw [← e3] at H
                clear e3
                obtain ⟨rv, m7, ⟨rfl, e3⟩, h9_68⟩ := f_inv H k238_68 (by decide +kernel) (as := [.int _]) (b := 314) (r := [.int _]) (by rfl) (chps e hwl)
                replace H := h9_68
                rw [← e3] at H
                clear e3
                replace H := f_iload_n H k238_71 rfl
                obtain ⟨rv, m8, ⟨rfl, e3⟩, h9_72⟩ := f_ins H k238_72 (by decide +kernel) (as := [.int _, .int _]) (r := [.int _]) (by rfl) (c_hasN (k := ch e) (j := c) (by omega) (by omega))
                replace H := h9_72
                rw [← e3] at H
                clear e3
                cases hbb : (ch e).testBit c with
                | true =>
                  rw [hbb] at H
                  replace H := f_if_eq_f H k238_75 (by decide)
                  replace H := f_iconst H k238_78 (v := 1) (by decide)
                  replace H := f_goto H k238_79 (t := 83) (by decide)
                  replace H := f_iadd H k238_83
                  rw [apI_t hb hbb] at H
                  replace H := f_istore H k238_84 (l2 := [(4, .int (apI q ch c (e + 1))), (5, .int 1), (6, .int (nI e)), (3, .int (nI c)), (2, .int (akJ (apN q ch) c)), (1, .int (akI (apN q ch) c)), (0, .ref 314)]) rfl
                  rw [fnI_y hb] at H
                  replace H := f_ext H (l' := [(6, .int (nI e)), (5, .int (fnI q (e + 1))), (4, .int (apI q ch c (e + 1))), (3, .int (nI c)), (2, .int (akJ (apN q ch) c)), (1, .int (akI (apN q ch) c)), (0, .ref 314)]) (lE_cons rfl (lE_cons rfl (lE_cons rfl (lE_cons rfl (lE_cons rfl (lE_cons rfl (lE_cons rfl (lE_nil)))))))) rfl rfl
                  exact nxt H
                | false =>
                  rw [hbb] at H
                  replace H := f_if_eq_t H k238_75 rfl (t := 82) (by decide)
                  replace H := f_iconst H k238_82 (v := -1) (by decide)
                  replace H := f_iadd H k238_83
                  rw [apI_f hb hbb] at H
                  replace H := f_istore H k238_84 (l2 := [(4, .int (apI q ch c (e + 1))), (5, .int 1), (6, .int (nI e)), (3, .int (nI c)), (2, .int (akJ (apN q ch) c)), (1, .int (akI (apN q ch) c)), (0, .ref 314)]) rfl
                  rw [fnI_y hb] at H
                  replace H := f_ext H (l' := [(6, .int (nI e)), (5, .int (fnI q (e + 1))), (4, .int (apI q ch c (e + 1))), (3, .int (nI c)), (2, .int (akJ (apN q ch) c)), (1, .int (akI (apN q ch) c)), (0, .ref 314)]) (lE_cons rfl (lE_cons rfl (lE_cons rfl (lE_cons rfl (lE_cons rfl (lE_cons rfl (lE_cons rfl (lE_nil)))))))) rfl rfl
                  exact nxt H
        replace H := f1_iload_n H k238_20 rfl
        replace H := f_aload_n H k238_21 rfl
        replace H := f_gi H k238_22 (ci := 12) (f := 25) (by decide +kernel) (by decide)
        rw [hT.1] at H
        have Hbr := f_icmp_ge H k238_25 (t := 131) (by decide)
        clear H
        rcases Hbr with ⟨c2, H⟩ | ⟨c2, H⟩
        · rw [nxle (by omega) (by omega)] at c2
          have ee : c = C := by omega
          replace H := f_iload_n H k238_131 rfl
          replace H := f_iret H k238_132
          exact ⟨_, _, H, _, rfl, Or.inl ⟨c9, by rcases hcn with h | h; omega; exact h, by rw [ee]; exact if_neg (by omega)⟩⟩
        · rw [nxle (by omega) (by omega)] at c2
          replace H := f_iconst H k238_28 (v := 0) (by decide)
          replace H := f_istore H k238_29 (l2 := [(4, .int 0), (3, .int (nI c)), (2, .int (akJ (apN q ch) c)), (1, .int (akI (apN q ch) c)), (0, .ref 314), (5, .int v5), (6, .int v6)]) rfl
          replace H := f_iconst H k238_31 (v := 0) (by decide)
          replace H := f_istore H k238_32 (l2 := [(5, .int 0), (4, .int 0), (3, .int (nI c)), (2, .int (akJ (apN q ch) c)), (1, .int (akI (apN q ch) c)), (0, .ref 314), (6, .int v6)]) rfl
          replace H := f_iconst H k238_34 (v := 0) (by decide)
          replace H := f_istore H k238_35 (l2 := [(6, .int 0), (5, .int 0), (4, .int 0), (3, .int (nI c)), (2, .int (akJ (apN q ch) c)), (1, .int (akI (apN q ch) c)), (0, .ref 314)]) rfl
          have a0 : apI q ch c 0 = 0 := Int32.sub_self _
          replace H := f_ext H (l' := [(6, .int (nI 0)), (5, .int (fnI q 0)), (4, .int 0), (3, .int (nI c)), (2, .int (akJ (apN q ch) c)), (1, .int (akI (apN q ch) c)), (0, .ref 314)]) (lE_cons rfl (lE_cons rfl (lE_cons rfl (lE_cons rfl (lE_cons rfl (lE_cons rfl (lE_cons rfl (lE_nil)))))))) rfl rfl
          exact inn _ 0 (Nat.le_refl _) (Nat.zero_le _) (by omega) (by rw [a0]; exact H)
    replace H := f_iconst H k238_14 (v := -1) (by decide)
    replace H := f_istore_n H k238_15 (l2 := [(1, .int (-1)), (0, .ref 314)]) rfl
    replace H := f_iconst H k238_16 (v := 0) (by decide)
    replace H := f_istore_n H k238_17 (l2 := [(2, .int 0), (1, .int (-1)), (0, .ref 314)]) rfl
    replace H := f_iconst H k238_18 (v := 0) (by decide)
    replace H := f_istore_n H k238_19 (l2 := [(3, .int 0), (2, .int 0), (1, .int (-1)), (0, .ref 314)]) rfl
    replace H := f_ext H (l' := [(3, .int (nI 0)), (2, .int (akJ (apN q ch) 0)), (1, .int (akI (apN q ch) 0)), (0, .ref 314), (4, .int 0), (5, .int 0), (6, .int 0)]) (lE_cons rfl (lE_cons rfl (lE_cons rfl (lE_cons rfl (lE_nil))))) rfl rfl
    exact lp _ 0 _ _ _ (Nat.zero_le _) (Or.inl rfl) H
  · rw [show (0 : Int32) = nI 0 from rfl, nI_inj (by omega) (by omega)] at c0
    replace H := f_iconst H k238_12 (v := -1) (by decide)
    replace H := f_iret H k238_13
    exact ⟨_, _, H, _, rfl, Or.inr ⟨fun h => by have h1 := hCS.mpr c0; have := h.1; omega, rfl⟩⟩
