theorem k63_0 : lkc 0 (kcode 63) = some (.aload_n 0) := by decide +kernel
theorem k63_1 : lkc 1 (kcode 63) = some (.iconst 0) := by decide +kernel
theorem k63_2 : lkc 2 (kcode 63) = some (.putfield 29) := by decide +kernel
theorem k63_5 : lkc 5 (kcode 63) = some (.aload_n 1) := by decide +kernel
theorem k63_6 : lkc 6 (kcode 63) = some (.iload_n 2) := by decide +kernel
theorem k63_7 : lkc 7 (kcode 63) = some (.invokevirtual 32) := by decide +kernel
theorem k63_10 : lkc 10 (kcode 63) = some (.istore_n 3) := by decide +kernel
theorem k63_11 : lkc 11 (kcode 63) = some (.iconst 0) := by decide +kernel
theorem k63_12 : lkc 12 (kcode 63) = some (.istore 4) := by decide +kernel
theorem k63_14 : lkc 14 (kcode 63) = some (.iload 4) := by decide +kernel
theorem k63_16 : lkc 16 (kcode 63) = some (.aload_n 1) := by decide +kernel
theorem k63_17 : lkc 17 (kcode 63) = some (.getfield 38) := by decide +kernel
theorem k63_20 : lkc 20 (kcode 63) = some (.if_icmp .ge 34) := by decide +kernel
theorem k63_23 : lkc 23 (kcode 63) = some (.iload_n 2) := by decide +kernel
theorem k63_24 : lkc 24 (kcode 63) = some (.iload 4) := by decide +kernel
theorem k63_26 : lkc 26 (kcode 63) = some (.ishr) := by decide +kernel
theorem k63_27 : lkc 27 (kcode 63) = some (.iconst 1) := by decide +kernel
theorem k63_28 : lkc 28 (kcode 63) = some (.iand) := by decide +kernel
theorem k63_29 : lkc 29 (kcode 63) = some (.ifCond .eq 19) := by decide +kernel
theorem k63_32 : lkc 32 (kcode 63) = some (.aload_n 0) := by decide +kernel
theorem k63_33 : lkc 33 (kcode 63) = some (.iload 4) := by decide +kernel
theorem k63_35 : lkc 35 (kcode 63) = some (.aload_n 1) := by decide +kernel
theorem k63_36 : lkc 36 (kcode 63) = some (.iload_n 3) := by decide +kernel
theorem k63_37 : lkc 37 (kcode 63) = some (.iconst 1) := by decide +kernel
theorem k63_38 : lkc 38 (kcode 63) = some (.iload 4) := by decide +kernel
theorem k63_40 : lkc 40 (kcode 63) = some (.ishl) := by decide +kernel
theorem k63_41 : lkc 41 (kcode 63) = some (.ior) := by decide +kernel
theorem k63_42 : lkc 42 (kcode 63) = some (.invokevirtual 41) := by decide +kernel
theorem k63_45 : lkc 45 (kcode 63) = some (.invokevirtual 44) := by decide +kernel
theorem k63_48 : lkc 48 (kcode 63) = some (.iinc 4 1) := by decide +kernel
theorem k63_51 : lkc 51 (kcode 63) = some (.goto (-37)) := by decide +kernel
theorem k63_54 : lkc 54 (kcode 63) = some (.aload_n 0) := by decide +kernel
theorem k63_55 : lkc 55 (kcode 63) = some (.bipush 99) := by decide +kernel
theorem k63_57 : lkc 57 (kcode 63) = some (.aload_n 1) := by decide +kernel
theorem k63_58 : lkc 58 (kcode 63) = some (.iload_n 3) := by decide +kernel
theorem k63_59 : lkc 59 (kcode 63) = some (.invokevirtual 41) := by decide +kernel
theorem k63_62 : lkc 62 (kcode 63) = some (.invokevirtual 44) := by decide +kernel
theorem k63_65 : lkc 65 (kcode 63) = some (.aload_n 0) := by decide +kernel
theorem k63_66 : lkc 66 (kcode 63) = some (.getfield 29) := by decide +kernel
theorem k63_69 : lkc 69 (kcode 63) = some (.ireturn) := by decide +kernel
theorem k64_0 : lkc 0 (kcode 64) = some (.iconst 0) := by decide +kernel
theorem k64_1 : lkc 1 (kcode 64) = some (.istore_n 3) := by decide +kernel
theorem k64_2 : lkc 2 (kcode 64) = some (.iload_n 3) := by decide +kernel
theorem k64_3 : lkc 3 (kcode 64) = some (.aload_n 0) := by decide +kernel
theorem k64_4 : lkc 4 (kcode 64) = some (.getfield 25) := by decide +kernel
theorem k64_7 : lkc 7 (kcode 64) = some (.if_icmp .ge 37) := by decide +kernel
theorem k64_10 : lkc 10 (kcode 64) = some (.iload_n 2) := by decide +kernel
theorem k64_11 : lkc 11 (kcode 64) = some (.aload_n 0) := by decide +kernel
theorem k64_12 : lkc 12 (kcode 64) = some (.getfield 9) := by decide +kernel
theorem k64_15 : lkc 15 (kcode 64) = some (.iload_n 3) := by decide +kernel
theorem k64_16 : lkc 16 (kcode 64) = some (.iaload) := by decide +kernel
theorem k64_17 : lkc 17 (kcode 64) = some (.ishr) := by decide +kernel
theorem k64_18 : lkc 18 (kcode 64) = some (.iconst 1) := by decide +kernel
theorem k64_19 : lkc 19 (kcode 64) = some (.iand) := by decide +kernel
theorem k64_20 : lkc 20 (kcode 64) = some (.ifCond .eq 7) := by decide +kernel
theorem k64_23 : lkc 23 (kcode 64) = some (.iconst 1) := by decide +kernel
theorem k64_24 : lkc 24 (kcode 64) = some (.goto 4) := by decide +kernel
theorem k64_27 : lkc 27 (kcode 64) = some (.iconst 0) := by decide +kernel
theorem k64_28 : lkc 28 (kcode 64) = some (.aload_n 0) := by decide +kernel
theorem k64_29 : lkc 29 (kcode 64) = some (.getfield 15) := by decide +kernel
theorem k64_32 : lkc 32 (kcode 64) = some (.iload_n 3) := by decide +kernel
theorem k64_33 : lkc 33 (kcode 64) = some (.baload) := by decide +kernel
theorem k64_34 : lkc 34 (kcode 64) = some (.if_icmp .eq 4) := by decide +kernel
theorem k64_37 : lkc 37 (kcode 64) = some (.return_) := by decide +kernel
theorem k64_38 : lkc 38 (kcode 64) = some (.iinc 3 1) := by decide +kernel
theorem k64_41 : lkc 41 (kcode 64) = some (.goto (-39)) := by decide +kernel
theorem k64_44 : lkc 44 (kcode 64) = some (.aload_n 0) := by decide +kernel
theorem k64_45 : lkc 45 (kcode 64) = some (.getfield 29) := by decide +kernel
theorem k64_48 : lkc 48 (kcode 64) = some (.bipush 12) := by decide +kernel
theorem k64_50 : lkc 50 (kcode 64) = some (.if_icmp .gt 33) := by decide +kernel
theorem k64_53 : lkc 53 (kcode 64) = some (.aload_n 0) := by decide +kernel
theorem k64_54 : lkc 54 (kcode 64) = some (.getfield 19) := by decide +kernel
theorem k64_57 : lkc 57 (kcode 64) = some (.aload_n 0) := by decide +kernel
theorem k64_58 : lkc 58 (kcode 64) = some (.getfield 29) := by decide +kernel
theorem k64_61 : lkc 61 (kcode 64) = some (.iload_n 1) := by decide +kernel
theorem k64_62 : lkc 62 (kcode 64) = some (.iastore) := by decide +kernel
theorem k64_63 : lkc 63 (kcode 64) = some (.aload_n 0) := by decide +kernel
theorem k64_64 : lkc 64 (kcode 64) = some (.getfield 22) := by decide +kernel
theorem k64_67 : lkc 67 (kcode 64) = some (.aload_n 0) := by decide +kernel
theorem k64_68 : lkc 68 (kcode 64) = some (.getfield 29) := by decide +kernel
theorem k64_71 : lkc 71 (kcode 64) = some (.iload_n 2) := by decide +kernel
theorem k64_72 : lkc 72 (kcode 64) = some (.iastore) := by decide +kernel
theorem k64_73 : lkc 73 (kcode 64) = some (.aload_n 0) := by decide +kernel
theorem k64_74 : lkc 74 (kcode 64) = some (.dup) := by decide +kernel
theorem k64_75 : lkc 75 (kcode 64) = some (.getfield 29) := by decide +kernel
theorem k64_78 : lkc 78 (kcode 64) = some (.iconst 1) := by decide +kernel
theorem k64_79 : lkc 79 (kcode 64) = some (.iadd) := by decide +kernel
theorem k64_80 : lkc 80 (kcode 64) = some (.putfield 29) := by decide +kernel
theorem k64_83 : lkc 83 (kcode 64) = some (.return_) := by decide +kernel
theorem k137_0 : lkc 0 (kcode 137) = some (.aload_n 0) := by decide +kernel
theorem k137_1 : lkc 1 (kcode 137) = some (.invokevirtual 239) := by decide +kernel
theorem k137_4 : lkc 4 (kcode 137) = some (.ifCond .ne 5) := by decide +kernel
theorem k137_7 : lkc 7 (kcode 137) = some (.iconst (-1)) := by decide +kernel
theorem k137_8 : lkc 8 (kcode 137) = some (.ireturn) := by decide +kernel
theorem k137_9 : lkc 9 (kcode 137) = some (.aload_n 0) := by decide +kernel
theorem k137_10 : lkc 10 (kcode 137) = some (.getfield 68) := by decide +kernel
theorem k137_13 : lkc 13 (kcode 137) = some (.aload_n 0) := by decide +kernel
theorem k137_14 : lkc 14 (kcode 137) = some (.getfield 19) := by decide +kernel
theorem k137_17 : lkc 17 (kcode 137) = some (.aload_n 0) := by decide +kernel
theorem k137_18 : lkc 18 (kcode 137) = some (.getfield 75) := by decide +kernel
theorem k137_21 : lkc 21 (kcode 137) = some (.getfield 193) := by decide +kernel
theorem k137_24 : lkc 24 (kcode 137) = some (.invokevirtual 338) := by decide +kernel
theorem k137_27 : lkc 27 (kcode 137) = some (.istore_n 2) := by decide +kernel
theorem k137_28 : lkc 28 (kcode 137) = some (.iload_n 1) := by decide +kernel
theorem k137_29 : lkc 29 (kcode 137) = some (.iconst (-1)) := by decide +kernel
theorem k137_30 : lkc 30 (kcode 137) = some (.if_icmp .ne 5) := by decide +kernel
theorem k137_33 : lkc 33 (kcode 137) = some (.iload_n 2) := by decide +kernel
theorem k137_34 : lkc 34 (kcode 137) = some (.ireturn) := by decide +kernel
theorem k137_35 : lkc 35 (kcode 137) = some (.iload_n 1) := by decide +kernel
theorem k137_36 : lkc 36 (kcode 137) = some (.ifCond .lt 8) := by decide +kernel
theorem k137_39 : lkc 39 (kcode 137) = some (.iload_n 1) := by decide +kernel
theorem k137_40 : lkc 40 (kcode 137) = some (.iload_n 2) := by decide +kernel
theorem k137_41 : lkc 41 (kcode 137) = some (.if_icmp .lt 7) := by decide +kernel
theorem k137_44 : lkc 44 (kcode 137) = some (.iconst (-1)) := by decide +kernel
theorem k137_45 : lkc 45 (kcode 137) = some (.goto 12) := by decide +kernel
theorem k137_48 : lkc 48 (kcode 137) = some (.aload_n 0) := by decide +kernel
theorem k137_49 : lkc 49 (kcode 137) = some (.getfield 68) := by decide +kernel
theorem k137_52 : lkc 52 (kcode 137) = some (.getfield 342) := by decide +kernel
theorem k137_55 : lkc 55 (kcode 137) = some (.iload_n 1) := by decide +kernel
theorem k137_56 : lkc 56 (kcode 137) = some (.iaload) := by decide +kernel
theorem k137_57 : lkc 57 (kcode 137) = some (.ireturn) := by decide +kernel
/-! forward: what was seen fits, both sides -/
def sgI9 (b : Bool) : Int32 := if b then 1 else 0
theorem sgI9_inj {a b : Bool} : sgI9 a = sgI9 b ↔ a = b := by cases a <;> cases b <;> decide
theorem sgI9_t : sgI9 true = 1 := rfl
theorem sgI9_f : sgI9 false = 0 := rfl
/-- the told chapels v are as seen, of the first of what was seen -/
def fitN (cs : Nat → Nat) (fs : Nat → Bool) (v : Nat) : Nat → Bool
  | 0 => true
  | j + 1 => fitN cs fs v j && (v.testBit (cs j) == fs j)
theorem fitN_s {cs : Nat → Nat} {fs : Nat → Bool} {v j : Nat} : fitN cs fs v (j + 1) = (fitN cs fs v j && (v.testBit (cs j) == fs j)) := rfl
theorem beq_ne {a b : Bool} (h : a ≠ b) : (a == b) = false := by
  cases a <;> cases b
  · exact absurd rfl h
  · rfl
  · rfl
  · exact absurd rfl h
theorem beq_sm {a b : Bool} (h : a = b) : (a == b) = true := by
  subst h
  cases a <;> rfl
theorem fitN_t {cs : Nat → Nat} {fs : Nat → Bool} {v j : Nat} (h : fitN cs fs v j = true) (e : v.testBit (cs j) = fs j) : fitN cs fs v (j + 1) = true := by
  rw [fitN_s, h, beq_sm e]
  rfl
theorem fitN_f {cs : Nat → Nat} {fs : Nat → Bool} {v j : Nat} (e : v.testBit (cs j) ≠ fs j) : ∀ K, j < K → fitN cs fs v K = false := by
  intro K
  induction K with
  | zero => exact fun h => absurd h (Nat.not_lt_zero j)
  | succ K ih =>
    intro h
    rw [fitN_s]
    by_cases c : j = K
    · rw [← c, beq_ne e, Bool.and_false]
    · rw [ih (by omega)]
      rfl
def sgX (m : xM) (K : Nat) (cs : Nat → Nat) (fs : Nat → Bool) : Prop := m.1 84 4 = nI K ∧ K ≤ 10 ∧ ∀ j, j < K → cs j < 8 ∧ m.1 85 j = nI (cs j) ∧ m.1 86 j = sgI9 (fs j)
def sgM (m : xM) (K : Nat) (cs : Nat → Nat) (fs : Nat → Bool) : Prop := m.1 314 51 = nI K ∧ K ≤ 10 ∧ ∀ j, j < K → cs j < 8 ∧ m.1 332 (2 * j) = nI (cs j) ∧ m.1 332 (2 * j + 1) = sgI9 (fs j)
set_option maxHeartbeats 1000000 in
theorem c_fits {m : xM} {K n e v : Nat} {cs : Nat → Nat} {fs : Nat → Bool} (hr : rS m) (hg : sgX m K cs fs) (hn : m.1 84 5 = nI n) (hn12 : n ≤ 12) (hv : v < 256) : fC 64 [.ref 84, .int (nI e), .int (nI v)] m (fun rv m' => rv = none ∧ ((fitN cs fs v K = false ∧ m' = m) ∨ (fitN cs fs v K = true ∧ m' = mI (mI (mI m 87 n (nI e)) 88 n (nI v)) 84 5 (nI (n + 1))))) := by
  refine fC_of (by decide) (fun d n9 P H => ?_)
  obtain ⟨g1, g2, g3⟩ := id hg
  have lp : ∀ n9 i, i ≤ K → fitN cs fs v i = true → xF 64 (xw d) P n9 2 [(3, .int (nI i)), (0, .ref 84), (1, .int (nI e)), (2, .int (nI v))] [] m → ∃ rv m', P rv m' ∧ rv = none ∧ ((fitN cs fs v K = false ∧ m' = m) ∨ (fitN cs fs v K = true ∧ m' = mI (mI (mI m 87 n (nI e)) 88 n (nI v)) 84 5 (nI (n + 1)))) := by
    intro n9
    induction n9 with
    | zero => exact fun i _ _ H => (xF_0 H).elim
    | succ n9 ih =>
      intro i hi hf H
      replace H := f1_iload_n H k64_2 rfl
      replace H := f_aload_n H k64_3 rfl
      replace H := f_gi H k64_4 (ci := 7) (f := 4) (by decide +kernel) (by decide)
      rw [g1] at H
      have Hbr := f_icmp_ge H k64_7 (t := 44) (by decide)
      clear H
      rcases Hbr with ⟨c0, H⟩ | ⟨c0, H⟩
      · rw [nxle (by omega) (by omega)] at c0
        have ei : i = K := by omega
        replace H := f_aload_n H k64_44 rfl
        replace H := f_gi H k64_45 (ci := 7) (f := 5) (by decide +kernel) (by decide)
        replace H := f_bipush H k64_48 (v := 12) (by decide)
        rw [hn] at H
        replace H := f_icmp_gt_f H k64_50 (by rw [show (12 : Int32) = nI 12 from rfl, nxlt (by omega) (by omega)]; omega)
        replace H := f_aload_n H k64_53 rfl
        replace H := f_gr H k64_54 (ci := 7) (f := 2) (x := 87) (by decide +kernel) (by decide) (hr 84 2 87 rfl)
        replace H := f_aload_n H k64_57 rfl
        replace H := f_gi H k64_58 (ci := 7) (f := 5) (by decide +kernel) (by decide)
        replace H := f_iload_n H k64_61 rfl
        rw [hn] at H
        have Hob := f_iast H k64_62 (c := 13) (by decide)
        clear H
        obtain ⟨hb62, H⟩ := Hob
        replace H := f_aload_n H k64_63 rfl
        replace H := f_gr H k64_64 (ci := 7) (f := 3) (x := 88) (by decide +kernel) (by decide) (hr 84 3 88 rfl)
        replace H := f_aload_n H k64_67 rfl
        replace H := f_gi H k64_68 (ci := 7) (f := 5) (by decide +kernel) (by decide)
        rw [nI_clamp (by omega), mI_ne (by omega), hn] at H
        replace H := f_iload_n H k64_71 rfl
        have Hob := f_iast H k64_72 (c := 13) (by decide)
        clear H
        obtain ⟨hb72, H⟩ := Hob
        replace H := f_aload_n H k64_73 rfl
        replace H := f_dup H k64_74
        replace H := f_gi H k64_75 (ci := 7) (f := 5) (by decide +kernel) (by decide)
        replace H := f_iconst H k64_78 (v := 1) (by decide)
        replace H := f_iadd H k64_79
        rw [nI_clamp (by omega), mI_ne (by omega), mI_ne (by omega), hn, nI_s] at H
        replace H := f_put_i H k64_80 (ci := 7) (f := 5) (by decide +kernel) (by decide)
        replace H := f_ret H k64_83
        exact ⟨_, _, H, rfl, Or.inr ⟨by rw [← ei]; exact hf, rfl⟩⟩
      · rw [nxle (by omega) (by omega)] at c0
        obtain ⟨g4, g5, g6⟩ := g3 i (by omega)
        have fin : ∀ s9 b, s9 = sgI9 b → v.testBit (cs i) = b → xF 64 (xw d) P n9 28 [(3, .int (nI i)), (0, .ref 84), (1, .int (nI e)), (2, .int (nI v))] [.int s9] m → ∃ rv m', P rv m' ∧ rv = none ∧ ((fitN cs fs v K = false ∧ m' = m) ∨ (fitN cs fs v K = true ∧ m' = mI (mI (mI m 87 n (nI e)) 88 n (nI v)) 84 5 (nI (n + 1)))) := by
          intro s9 b es eb H
          replace H := f_aload_n H k64_28 rfl
          replace H := f_gr H k64_29 (ci := 7) (f := 1) (x := 86) (by decide +kernel) (by decide) (hr 84 1 86 rfl)
          replace H := f_iload_n H k64_32 rfl
          have Hob := f_bald2 H k64_33 (c := 10) (by decide)
          clear H
          obtain ⟨hb33, H⟩ := Hob
          rw [nI_clamp (by omega), g6, es] at H
          have Hbr := f_icmp_eq H k64_34 (t := 38) (by decide)
          clear H
          rcases Hbr with ⟨c1, H⟩ | ⟨c1, H⟩
          · rw [sgI9_inj] at c1
            replace H := f_iinc H k64_38 rfl (l2 := [(3, .int (nI i + 1)), (0, .ref 84), (1, .int (nI e)), (2, .int (nI v))]) rfl
            replace H := f_goto H k64_41 (t := 2) (by decide)
            rw [nI_s] at H
            exact ih (i + 1) (by omega) (fitN_t hf (eb.trans c1)) H
          · rw [sgI9_inj] at c1
            replace H := f_ret H k64_37
            exact ⟨_, _, H, rfl, Or.inl ⟨fitN_f (fun q => c1 (eb.symm.trans q)) K (by omega), rfl⟩⟩
        replace H := f_iload_n H k64_10 rfl
        replace H := f_aload_n H k64_11 rfl
        replace H := f_gr H k64_12 (ci := 7) (f := 0) (x := 85) (by decide +kernel) (by decide) (hr 84 0 85 rfl)
        replace H := f_iload_n H k64_15 rfl
        have Hob := f_iald H k64_16 (c := 10) (by decide)
        clear H
        obtain ⟨hb16, H⟩ := Hob
        replace H := f_ishr H k64_17
        replace H := f_iconst H k64_18 (v := 1) (by decide)
        replace H := f_iand H k64_19
        rw [nI_clamp (by omega), g5, has_n (by omega) (by omega)] at H
        cases hb : v.testBit (cs i) with
        | true =>
          rw [hb] at H
          replace H := f_if_eq_f H k64_20 (by decide)
          replace H := f_iconst H k64_23 (v := 1) (by decide)
          replace H := f_goto H k64_24 (t := 28) (by decide)
          exact fin 1 true rfl hb H
        | false =>
          rw [hb] at H
          replace H := f_if_eq_t H k64_20 rfl (t := 27) (by decide)
          replace H := f_iconst H k64_27 (v := 0) (by decide)
          exact fin 0 false rfl hb H
  replace H := f_iconst H k64_0 (v := 0) (by decide)
  replace H := f_istore_n H k64_1 (l2 := [(3, .int 0), (0, .ref 84), (1, .int (nI e)), (2, .int (nI v))]) rfl
  replace H := f_ext H (l' := [(3, .int (nI 0)), (0, .ref 84), (1, .int (nI e)), (2, .int (nI v))]) (lE_cons rfl (lE_cons rfl (lE_cons rfl (lE_cons rfl (lE_nil))))) rfl rfl
  exact lp _ 0 (Nat.zero_le _) rfl H
/-- the streets by number, and 99: which were maybe knocked through -/
def cdW (w e : Nat) : Nat := if e = 99 then w else w ^^^ 2 ^ e
def cdV (C S : Nat) (A B : Nat → Nat) (w e : Nat) : Nat := chp A B S (cdW w e) C
def cdQ (C S : Nat) (A B : Nat → Nat) (w K : Nat) (cs : Nat → Nat) (fs : Nat → Bool) (e : Nat) : Bool := (decide (e = 99) || (decide (e < S) && w.testBit e)) && fitN cs fs (cdV C S A B w e) K
theorem cdW_lt {w e : Nat} (hw : w < 65536) (he : e = 99 ∨ e < 16) : cdW w e < 65536 := by
  unfold cdW
  split
  · exact hw
  · exact Nat.xor_lt_two_pow (n := 16) hw (Nat.lt_of_lt_of_le (Nat.pow_lt_pow_right (by omega) (by omega : e < 16)) (Nat.le_refl _))
theorem cdW_o {w e S : Nat} (he : e < S) (hS : S ≤ 12) (hb : w.testBit e = true) : ∀ i, i < S → (opb S w ||| 2 ^ e).testBit i = !((cdW w e).testBit i) := by
  intro i hi
  rw [show cdW w e = w ^^^ 2 ^ e from if_neg (by omega), Nat.testBit_or, Nat.testBit_xor, Nat.testBit_two_pow, opb_bit, decide_eq_true hi]
  by_cases c : e = i
  · subst c
    rw [show decide (e = e) = true from decide_eq_true rfl, hb]
    rfl
  · rw [decide_eq_false c]
    cases w.testBit i <;> rfl
theorem cdQ_out {C S : Nat} {A B : Nat → Nat} {w K : Nat} {cs : Nat → Nat} {fs : Nat → Bool} {e : Nat} (h : e ≠ 99) (h2 : ¬ (e < S ∧ w.testBit e = true)) : cdQ C S A B w K cs fs e = false := by
  unfold cdQ
  rw [decide_eq_false h]
  by_cases c : e < S
  · have hb : w.testBit e = false := by
      cases hb : w.testBit e with
      | true => exact absurd ⟨c, hb⟩ h2
      | false => rfl
    rw [hb, Bool.and_false]
    rfl
  · rw [decide_eq_false c]
    rfl
theorem cdQ_in {C S : Nat} {A B : Nat → Nat} {w K : Nat} {cs : Nat → Nat} {fs : Nat → Bool} {e : Nat} (h : e < S) (h2 : w.testBit e = true) : cdQ C S A B w K cs fs e = fitN cs fs (cdV C S A B w e) K := by
  unfold cdQ
  rw [decide_eq_true h, h2, Bool.and_true, Bool.or_true, Bool.true_and]
theorem cdQ_99 {C S : Nat} {A B : Nat → Nat} {w K : Nat} {cs : Nat → Nat} {fs : Nat → Bool} : cdQ C S A B w K cs fs 99 = fitN cs fs (cdV C S A B w 99) K := rfl
theorem cdV_lt {C S : Nat} {A B : Nat → Nat} {w e : Nat} (hC : C ≤ 8) : cdV C S A B w e < 256 := Nat.lt_of_lt_of_le (chp_lt C) (p2_8 hC)
theorem cnt_lE {q : Nat → Bool} {a b : Nat} (h : a ≤ b) : fa_cnt q a ≤ fa_cnt q b := by
  induction b with
  | zero => rw [show a = 0 by omega]; exact Nat.le_refl _
  | succ b ih =>
    by_cases c : a = b + 1
    · rw [c]; exact Nat.le_refl _
    · have := ih (by omega)
      cases hq : q b with
      | true => rw [fa_cnt_yes hq]; omega
      | false => rw [fa_cnt_no hq]; omega
theorem cnt_lt {q : Nat → Bool} {a b : Nat} (h : a < b) (hq : q a = true) : fa_cnt q a < fa_cnt q b := by
  have h1 := cnt_lE (q := q) (a := a + 1) (b := b) h
  rw [fa_cnt_yes hq] at h1
  omega
theorem cnt_flat {q : Nat → Bool} {a b : Nat} (h : a ≤ b) (hq : ∀ e, a ≤ e → e < b → q e = false) : fa_cnt q b = fa_cnt q a := by
  induction b with
  | zero => rw [show a = 0 by omega]
  | succ b ih =>
    by_cases c : a = b + 1
    · rw [c]
    · rw [fa_cnt_no (hq b (by omega) (by omega))]
      exact ih (by omega) (fun e h1 h2 => hq e h1 (by omega))
theorem cnt_hit {q : Nat → Bool} {i b : Nat} (h : i < fa_cnt q b) : ∃ r, r < b ∧ q r = true ∧ fa_cnt q r = i := by
  induction b with
  | zero => exact absurd h (Nat.not_lt_zero i)
  | succ b ih =>
    by_cases c : i < fa_cnt q b
    · obtain ⟨r, h1, h2⟩ := ih c
      exact ⟨r, by omega, h2⟩
    · cases hq : q b with
      | true =>
        rw [fa_cnt_yes hq] at h
        exact ⟨b, by omega, hq, by omega⟩
      | false =>
        rw [fa_cnt_no hq] at h
        exact absurd h c
theorem cnt_1 {q : Nat → Bool} {a b : Nat} (ha : q a = true) (hb : q b = true) (h : fa_cnt q a = fa_cnt q b) : a = b := by
  rcases Nat.lt_trichotomy a b with c | c | c
  · have := cnt_lt c ha
    omega
  · exact c
  · have := cnt_lt c hb
    omega
/-- what was gathered so far -/
def gaO (q : Nat → Bool) (ch : Nat → Nat) (m : xM) (e : Nat) : Prop := m.1 84 5 = nI (fa_cnt q e) ∧ ∀ r, r < e → q r = true → m.1 87 (fa_cnt q r) = nI r ∧ m.1 88 (fa_cnt q r) = nI (ch r)
theorem gaO_no {q : Nat → Bool} {ch : Nat → Nat} {m : xM} {a b : Nat} (h : gaO q ch m a) (hab : a ≤ b) (hq : ∀ e, a ≤ e → e < b → q e = false) : gaO q ch m b := by
  refine ⟨by rw [cnt_flat hab hq]; exact h.1, fun r hr h2 => h.2 r ?_ h2⟩
  by_cases c : r < a
  · exact c
  · rw [hq r (by omega) hr] at h2
    cases h2
theorem gaO_yes {q : Nat → Bool} {ch : Nat → Nat} {m : xM} {e : Nat} (h : gaO q ch m e) (hq : q e = true) : gaO q ch (mI (mI (mI m 87 (fa_cnt q e) (nI e)) 88 (fa_cnt q e) (nI (ch e))) 84 5 (nI (fa_cnt q e + 1))) (e + 1) := by
  refine ⟨by rw [fa_cnt_yes hq]; exact mI_at, fun r hr h2 => ?_⟩
  by_cases c : r = e
  · subst c
    exact ⟨by rw [mI_ne (by omega), mI_ne (by omega), mI_at], by rw [mI_ne (by omega), mI_at]⟩
  · have hlt := cnt_lt (show r < e by omega) h2
    obtain ⟨h3, h4⟩ := h.2 r (by omega) h2
    exact ⟨by rw [mI_ne (by omega), mI_ne (by omega), mI_ne (by omega)]; exact h3, by rw [mI_ne (by omega), mI_ne (by omega), mI_ne (by omega)]; exact h4⟩
def gaF (m m2 : xM) : Prop := ∀ a i, a ≠ 87 → a ≠ 88 → ¬ (a = 84 ∧ i = 5) → m2.1 a i = m.1 a i
theorem gaF_m {m m2 : xM} {n : Nat} {x y z : Int32} (h : gaF m m2) : gaF m (mI (mI (mI m2 87 n x) 88 n y) 84 5 z) := fun a i h1 h2 h3 => by rw [mI_ne (by omega), mI_ne (by omega), mI_ne (by omega)]; exact h a i h1 h2 h3
theorem sgX_f {m m2 : xM} {K : Nat} {cs : Nat → Nat} {fs : Nat → Bool} (hg : sgX m K cs fs) (h : gaF m m2) : sgX m2 K cs fs := ⟨by rw [h 84 4 (by omega) (by omega) (by omega)]; exact hg.1, hg.2.1, fun j hj => by rw [h 85 j (by omega) (by omega) (by omega), h 86 j (by omega) (by omega) (by omega)]; exact hg.2.2 j hj⟩
set_option maxHeartbeats 2000000 in
theorem c_gather {m : xM} {C S w K : Nat} {A B Y : Nat → Nat} {cs : Nat → Nat} {fs : Nat → Bool} (hr : rS m) (hT : xT m C S A B Y) (hw2 : w < 65536) (hg : sgX m K cs fs) : fC 63 [.ref 84, .ref 3, .int (nI w)] m (fun rv m' => rv = some (.int (nI (fa_cnt (cdQ C S A B w K cs fs) 100))) ∧ rS m' ∧ gaF m m' ∧ gaO (cdQ C S A B w K cs fs) (cdV C S A B w) m' 100) := by
  refine fC_of (by decide) (fun d n9 P H => ?_)
  have hC8 : C ≤ 8 := hT.2.2.1
  have hS12 : S ≤ 12 := hT.2.2.2.1
  have c99 : fa_cnt (cdQ C S A B w K cs fs) 99 = fa_cnt (cdQ C S A B w K cs fs) S := cnt_flat (by omega) (fun e h1 h2 => cdQ_out (by omega) (fun q => by have := q.1; omega))
  have out : ∀ e, e ≠ 99 → ¬ (e < S ∧ w.testBit e = true) → cdQ C S A B w K cs fs e = false := fun e => cdQ_out
  have inn : ∀ e, e < S → w.testBit e = true → cdQ C S A B w K cs fs e = fitN cs fs (cdV C S A B w e) K := fun e => cdQ_in
  have last : cdQ C S A B w K cs fs 99 = fitN cs fs (cdV C S A B w 99) K := cdQ_99
  obtain ⟨q, hq⟩ : ∃ q, q = cdQ C S A B w K cs fs := ⟨_, rfl⟩
  obtain ⟨ch, hch⟩ : ∃ ch, ch = cdV C S A B w := ⟨_, rfl⟩
  rw [← hq] at c99 out inn last
  rw [← hq, ← hch]
  have hc8 : ∀ e, ch e < 256 := fun e => by rw [hch]; exact cdV_lt hC8
  have lp : ∀ n9 e m1, e ≤ S → rS m1 → gaF m m1 → gaO q ch m1 e → xF 63 (xw d) P n9 14 [(4, .int (nI e)), (3, .int (nI (opb S w))), (0, .ref 84), (1, .ref 3), (2, .int (nI w))] [] m1 → ∃ rv m', P rv m' ∧ rv = some (.int (nI (fa_cnt q 100))) ∧ rS m' ∧ gaF m m' ∧ gaO q ch m' 100 := by
    intro n9
    induction n9 with
    | zero => exact fun e m1 _ _ _ _ H => (xF_0 H).elim
    | succ n9 ih =>
      intro e m1 he hr hf ho H
      have hT1 : xT m1 C S A B Y := xT_f hT (fun a i h1 h2 => hf a i (by omega) (by omega) (by omega))
      have hg1 : sgX m1 K cs fs := sgX_f hg hf
      have hce := fa_cnt_le q e
      have hcS := fa_cnt_le q S
      replace H := f1_iload H k63_14 rfl
      replace H := f_aload_n H k63_16 rfl
      replace H := f_gi H k63_17 (ci := 5) (f := 1) (by decide +kernel) (by decide)
      rw [hT1.2.1] at H
      have Hbr := f_icmp_ge H k63_20 (t := 54) (by decide)
      clear H
      rcases Hbr with ⟨c0, H⟩ | ⟨c0, H⟩
      · rw [nxle (by omega) (by omega)] at c0
        have ee : e = S := by omega
        replace H := f_aload_n H k63_54 rfl
        replace H := f_bipush H k63_55 (v := 99) (by decide)
        rw [show (99 : Int32) = nI 99 from rfl] at H
        replace H := f_aload_n H k63_57 rfl
        replace H := f_iload_n H k63_58 rfl
        obtain ⟨rv, m2, ⟨rfl, e3⟩, h9_59⟩ := f_inv H k63_59 (by decide +kernel) (as := [.int _]) (b := 3) (r := [.int _, .ref 84]) (by rfl) (c_chapelsAmong hr hT1 (opb_o (w := w)))
        replace H := h9_59
        rw [← e3] at H
        clear e3
        have ecv : chp A B S w C = ch 99 := by rw [hch]; rfl
        rw [ecv] at H
        have ho9 : gaO q ch m1 99 := gaO_no ho (by omega) (fun e9 h1 h2 => out e9 (by omega) (fun z => by have := z.1; omega))
        obtain ⟨rv, m3, ⟨rfl, hz⟩, h9_62⟩ := f_inv H k63_62 (by decide +kernel) (as := [.int _, .int _]) (b := 84) (r := []) (by rfl) (c_fits hr hg1 ho9.1 (by omega) (hc8 99))
        replace H := h9_62
        rcases hz with ⟨z1, e9⟩ | ⟨z1, e9⟩ <;> rw [e9] at H
        · have ho10 : gaO q ch m1 100 := gaO_no ho9 (by omega) (fun e9 h1 h2 => by rw [show e9 = 99 by omega, last, ← hch]; exact z1)
          replace H := f_aload_n H k63_65 rfl
          replace H := f_gi H k63_66 (ci := 7) (f := 5) (by decide +kernel) (by decide)
          rw [ho10.1] at H
          replace H := f_iret H k63_69
          exact ⟨_, _, H, rfl, hr, hf, ho10⟩
        · have ho10 := gaO_yes ho9 (by rw [last, ← hch]; exact z1)
          replace H := f_aload_n H k63_65 rfl
          replace H := f_gi H k63_66 (ci := 7) (f := 5) (by decide +kernel) (by decide)
          rw [ho10.1] at H
          replace H := f_iret H k63_69
          exact ⟨_, _, H, rfl, hr, gaF_m hf, ho10⟩
      · rw [nxle (by omega) (by omega)] at c0
        have he2 : e < S := by omega
        have skp : ∀ m2, rS m2 → gaF m m2 → gaO q ch m2 (e + 1) → xF 63 (xw d) P n9 48 [(4, .int (nI e)), (3, .int (nI (opb S w))), (0, .ref 84), (1, .ref 3), (2, .int (nI w))] [] m2 → ∃ rv m', P rv m' ∧ rv = some (.int (nI (fa_cnt q 100))) ∧ rS m' ∧ gaF m m' ∧ gaO q ch m' 100 := by
          intro m2 hr2 hf2 ho2 H
          replace H := f_iinc H k63_48 rfl (l2 := [(4, .int (nI e + 1)), (3, .int (nI (opb S w))), (0, .ref 84), (1, .ref 3), (2, .int (nI w))]) rfl
          replace H := f_goto H k63_51 (t := 14) (by decide)
          rw [nI_s] at H
          exact ih (e + 1) m2 he2 hr2 hf2 ho2 H
        replace H := f_iload_n H k63_23 rfl
        replace H := f_iload H k63_24 rfl
        replace H := f_ishr H k63_26
        replace H := f_iconst H k63_27 (v := 1) (by decide)
        replace H := f_iand H k63_28
        rw [has_n (by omega) (by omega)] at H
        cases hb : w.testBit e with
        | false =>
          rw [hb] at H
          replace H := f_if_eq_t H k63_29 rfl (t := 48) (by decide)
          exact skp m1 hr hf (gaO_no ho (by omega) (fun e9 h1 h2 => out e9 (by omega) (fun z => by rw [show e9 = e by omega, hb] at z; cases z.2))) H
        | true =>
          rw [hb] at H
          replace H := f_if_eq_f H k63_29 (by decide)
          replace H := f_aload_n H k63_32 rfl
          replace H := f_iload H k63_33 rfl
          replace H := f_aload_n H k63_35 rfl
          replace H := f_iload_n H k63_36 rfl
          replace H := f_iconst H k63_37 (v := 1) (by decide)
          replace H := f_iload H k63_38 rfl
          replace H := f_ishl H k63_40
          replace H := f_ior H k63_41
          rw [shl_n (by omega), fa_or] at H
          obtain ⟨rv, m2, ⟨rfl, e3⟩, h9_42⟩ := f_inv H k63_42 (by decide +kernel) (as := [.int _]) (b := 3) (r := [.int _, .ref 84]) (by rfl) (c_chapelsAmong hr hT1 (cdW_o he2 hS12 hb))
          replace H := h9_42
          rw [← e3] at H
          clear e3
          have ecv : chp A B S (cdW w e) C = ch e := by rw [hch]; rfl
          rw [ecv] at H
          obtain ⟨rv, m3, ⟨rfl, hz⟩, h9_45⟩ := f_inv H k63_45 (by decide +kernel) (as := [.int _, .int _]) (b := 84) (r := []) (by rfl) (c_fits hr hg1 ho.1 (by omega) (hc8 e))
          replace H := h9_45
          rcases hz with ⟨z1, e9⟩ | ⟨z1, e9⟩ <;> rw [e9] at H
          · exact skp m1 hr hf (gaO_no ho (by omega) (fun e9 h1 h2 => by rw [show e9 = e by omega, inn e he2 hb, ← hch]; exact z1)) H
          · exact skp (mI (mI (mI m1 87 (fa_cnt q e) (nI e)) 88 (fa_cnt q e) (nI (ch e))) 84 5 (nI (fa_cnt q e + 1))) hr (gaF_m hf) (gaO_yes ho (by rw [inn e he2 hb, ← hch]; exact z1)) H
  replace H := f_aload_n H k63_0 rfl
  replace H := f_iconst H k63_1 (v := 0) (by decide)
  replace H := f_put_i H k63_2 (ci := 7) (f := 5) (by decide +kernel) (by decide)
  replace H := f_aload_n H k63_5 rfl
  replace H := f_iload_n H k63_6 rfl
  have hr : rS (mI m 84 5 0) := hr
  have hT0 : xT (mI m 84 5 0) C S A B Y := xT_f hT (fun a i h1 h2 => mI_ne (by omega))
  obtain ⟨rv, m2, ⟨rfl, e3⟩, h9_7⟩ := f_inv H k63_7 (by decide +kernel) (as := [.int _]) (b := 3) (r := []) (by rfl) (c_openBehind hr hT0)
  replace H := h9_7
  rw [← e3] at H
  clear e3
  replace H := f_istore_n H k63_10 (l2 := [(3, .int _), (0, .ref 84), (1, .ref 3), (2, .int (nI w))]) rfl
  replace H := f_iconst H k63_11 (v := 0) (by decide)
  replace H := f_istore H k63_12 (l2 := [(4, .int 0), (3, .int _), (0, .ref 84), (1, .ref 3), (2, .int (nI w))]) rfl
  replace H := f_ext H (l' := [(4, .int (nI 0)), (3, .int (nI (opb S w))), (0, .ref 84), (1, .ref 3), (2, .int (nI w))]) (lE_cons rfl (lE_cons rfl (lE_cons rfl (lE_cons rfl (lE_cons rfl (lE_nil)))))) rfl rfl
  exact lp _ 0 _ (Nat.zero_le _) hr (fun a i h1 h2 h3 => mI_ne (by omega)) ⟨mI_at, fun r hr9 => absurd hr9 (Nat.not_lt_zero r)⟩ H
/-- knocked: how many, the i-th -/
def knV (C : Nat) (q : Nat → Bool) (z v : Int32) : Prop := (0 < C ∧ z = -1 ∧ v = nI (fa_cnt q 100)) ∨ (0 < C ∧ ∃ r, r < 100 ∧ q r = true ∧ z = nI (fa_cnt q r) ∧ v = nI r) ∨ (¬ (0 < C ∧ (z = -1 ∨ ∃ r, r < 100 ∧ q r = true ∧ z = nI (fa_cnt q r))) ∧ v = -1)
theorem knV_1 {C : Nat} {q : Nat → Bool} {z v u : Int32} (h : knV C q z v) (g : knV C q z u) : v = u := by
  have cb : ∀ r, r < 100 → fa_cnt q r < 2147483648 := fun r hr => by have := fa_cnt_le q r; omega
  rcases h with ⟨h1, h2, h3⟩ | ⟨h1, r, h2, h3, h4, h5⟩ | ⟨h1, h2⟩
  · rcases g with ⟨g1, g2, g3⟩ | ⟨g1, s, g2, g3, g4, g5⟩ | ⟨g1, g2⟩
    · exact h3.trans g3.symm
    · exact absurd (g4.symm.trans h2) (nI_ne1 (cb s g2))
    · exact absurd ⟨h1, Or.inl h2⟩ g1
  · rcases g with ⟨g1, g2, g3⟩ | ⟨g1, s, g2, g3, g4, g5⟩ | ⟨g1, g2⟩
    · exact absurd (h4.symm.trans g2) (nI_ne1 (cb r h2))
    · have := cnt_1 h3 g3 ((nI_inj (cb r h2) (cb s g2)).mp (h4.symm.trans g4))
      rw [h5, g5, this]
    · exact absurd ⟨h1, Or.inr ⟨r, h2, h3, h4⟩⟩ g1
  · rcases g with ⟨g1, g2, g3⟩ | ⟨g1, s, g2, g3, g4, g5⟩ | ⟨g1, g2⟩
    · exact absurd ⟨g1, Or.inl g2⟩ h1
    · exact absurd ⟨g1, Or.inr ⟨s, g2, g3, g4⟩⟩ h1
    · exact h2.trans g2.symm
set_option maxHeartbeats 1000000 in
theorem c_knocked {m : xM} {C S w K : Nat} {A B Y : Nat → Nat} {cs : Nat → Nat} {fs : Nat → Bool} {z : Int32} (hr : rS m) (hT : xT m C S A B Y) (hw : m.1 89 0 = nI w) (hw2 : w < 65536) (hg : sgX m K cs fs) : fC 137 [.ref 0, .int z] m (fun rv m' => ∃ v, rv = some (.int v) ∧ knV C (cdQ C S A B w K cs fs) z v) := by
  refine fC_of (by decide) (fun d n9 P H => ?_)
  have hC8 : C ≤ 8 := hT.2.2.1
  replace H := f_aload_n H k137_0 rfl
  obtain ⟨rv, m3, ⟨ho, e3⟩, h9_1⟩ := f_inv H k137_1 (by decide +kernel) (as := []) (b := 0) (r := []) (by rfl) (c_hasTown hr hT.1 (by omega))
  replace H := h9_1
  rw [← e3] at H
  clear e3
  rcases ho with ⟨c0, rfl⟩ | ⟨c0, rfl⟩
  case inr =>
    replace H := f_if_ne_f H k137_4 (by decide)
    replace H := f_iconst H k137_7 (v := -1) (by decide)
    replace H := f_iret H k137_8
    exact ⟨_, _, H, _, rfl, Or.inr (Or.inr ⟨fun q => by omega, rfl⟩)⟩
  replace H := f_if_ne_t H k137_4 (by decide) (t := 9) (by decide)
  replace H := f_aload_n H k137_9 rfl
  replace H := f_gr H k137_10 (ci := 11) (f := 8) (x := 84) (by decide +kernel) (by decide) (hr 0 8 84 rfl)
  replace H := f_aload_n H k137_13 rfl
  replace H := f_gr H k137_14 (ci := 11) (f := 1) (x := 3) (by decide +kernel) (by decide) (hr 0 1 3 rfl)
  replace H := f_aload_n H k137_17 rfl
  replace H := f_gr H k137_18 (ci := 11) (f := 9) (x := 89) (by decide +kernel) (by decide) (hr 0 9 89 rfl)
  replace H := f_gi H k137_21 (ci := 6) (f := 0) (by decide +kernel) (by decide)
  rw [hw] at H
  obtain ⟨rv, m5, ⟨rfl, hr5, hf5, ho5⟩, h9_24⟩ := f_inv H k137_24 (by decide +kernel) (as := [.ref 3, .int _]) (b := 84) (r := []) (by rfl) (c_gather hr hT hw2 hg)
  replace H := h9_24
  have hr := hr5
  obtain ⟨q, hq⟩ : ∃ q, q = cdQ C S A B w K cs fs := ⟨_, rfl⟩
  rw [← hq] at H ho5
  rw [← hq]
  have hn100 := fa_cnt_le q 100
  have neg : ∀ n, ¬ (0 < C ∧ (z = -1 ∨ ∃ r, r < 100 ∧ q r = true ∧ z = nI (fa_cnt q r))) → xF 137 (xw d) P n 44 [(2, .int (nI (fa_cnt q 100))), (0, .ref 0), (1, .int z)] [] m5 → ∃ rv m', P rv m' ∧ ∃ v, rv = some (.int v) ∧ knV C q z v := by
    intro n hn H
    replace H := f_iconst H k137_44 (v := -1) (by decide)
    replace H := f_goto H k137_45 (t := 57) (by decide)
    replace H := f_iret H k137_57
    exact ⟨_, _, H, _, rfl, Or.inr (Or.inr ⟨hn, rfl⟩)⟩
  replace H := f_istore_n H k137_27 (l2 := [(2, .int (nI (fa_cnt q 100))), (0, .ref 0), (1, .int z)]) rfl
  replace H := f_iload_n H k137_28 rfl
  replace H := f_iconst H k137_29 (v := -1) (by decide)
  have Hbr := f_icmp_ne H k137_30 (t := 35) (by decide)
  clear H
  rcases Hbr with ⟨c1, H⟩ | ⟨c1, H⟩
  · replace H := f_iload_n H k137_35 rfl
    have Hbr := f_if_lt H k137_36 (t := 44) (by decide)
    clear H
    rcases Hbr with ⟨c2, H⟩ | ⟨c2, H⟩
    · exact neg _ (fun ⟨_, h⟩ => by
        rcases h with h | ⟨r, h1, h2, h3⟩
        · exact c1 h
        · have := fa_cnt_le q r
          rw [h3, show (0 : Int32) = nI 0 from rfl, nxlt (by omega) (by omega)] at c2
          omega) H
    · replace H := f_iload_n H k137_39 rfl
      replace H := f_iload_n H k137_40 rfl
      have Hbr := f_icmp_lt H k137_41 (t := 48) (by decide)
      clear H
      rcases Hbr with ⟨c3, H⟩ | ⟨c3, H⟩
      · obtain ⟨i, hi, rfl⟩ := z_nI (z := z) (K := fa_cnt q 100) (by omega) c2 c3
        obtain ⟨r, hr1, hr2, hr3⟩ := cnt_hit hi
        replace H := f_aload_n H k137_48 rfl
        replace H := f_gr H k137_49 (ci := 11) (f := 8) (x := 84) (by decide +kernel) (by decide) (hr 0 8 84 rfl)
        replace H := f_gr H k137_52 (ci := 7) (f := 2) (x := 87) (by decide +kernel) (by decide) (hr 84 2 87 rfl)
        replace H := f_iload_n H k137_55 rfl
        have Hob := f_iald H k137_56 (c := 13) (by decide)
        clear H
        obtain ⟨hb56, H⟩ := Hob
        rw [nI_clamp (by omega), ← hr3, (ho5.2 r hr1 hr2).1] at H
        replace H := f_iret H k137_57
        exact ⟨_, _, H, _, rfl, Or.inr (Or.inl ⟨c0, r, hr1, hr2, by rw [hr3], rfl⟩)⟩
      · exact neg _ (fun ⟨_, h⟩ => by
          rcases h with h | ⟨r, h1, h2, h3⟩
          · exact c1 h
          · have h4 := fa_cnt_le q r
            have h5 := cnt_lt h1 h2
            exact c3 (by rw [h3]; exact (nxlt (by omega) (by omega)).mpr h5)) H
  · replace H := f_iload_n H k137_33 rfl
    replace H := f_iret H k137_34
    exact ⟨_, _, H, _, rfl, Or.inl ⟨c0, c1, rfl⟩⟩
