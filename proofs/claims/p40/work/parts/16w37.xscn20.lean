theorem k139_0 : lkc 0 (kcode 139) = some (.iload_n 1) := by decide +kernel
theorem k139_1 : lkc 1 (kcode 139) = some (.iconst 1) := by decide +kernel
theorem k139_2 : lkc 2 (kcode 139) = some (.if_icmp .lt 16) := by decide +kernel
theorem k139_5 : lkc 5 (kcode 139) = some (.iload_n 1) := by decide +kernel
theorem k139_6 : lkc 6 (kcode 139) = some (.iconst 1) := by decide +kernel
theorem k139_7 : lkc 7 (kcode 139) = some (.aload_n 0) := by decide +kernel
theorem k139_8 : lkc 8 (kcode 139) = some (.getfield 19) := by decide +kernel
theorem k139_11 : lkc 11 (kcode 139) = some (.getfield 216) := by decide +kernel
theorem k139_14 : lkc 14 (kcode 139) = some (.ishl) := by decide +kernel
theorem k139_15 : lkc 15 (kcode 139) = some (.if_icmp .lt 5) := by decide +kernel
theorem k139_18 : lkc 18 (kcode 139) = some (.iconst (-1)) := by decide +kernel
theorem k139_19 : lkc 19 (kcode 139) = some (.ireturn) := by decide +kernel
theorem k139_20 : lkc 20 (kcode 139) = some (.aload_n 0) := by decide +kernel
theorem k139_21 : lkc 21 (kcode 139) = some (.invokevirtual 170) := by decide +kernel
theorem k139_24 : lkc 24 (kcode 139) = some (.istore_n 2) := by decide +kernel
theorem k139_25 : lkc 25 (kcode 139) = some (.iconst (-1)) := by decide +kernel
theorem k139_26 : lkc 26 (kcode 139) = some (.istore_n 3) := by decide +kernel
theorem k139_27 : lkc 27 (kcode 139) = some (.bipush 13) := by decide +kernel
theorem k139_29 : lkc 29 (kcode 139) = some (.istore 4) := by decide +kernel
theorem k139_31 : lkc 31 (kcode 139) = some (.iconst 0) := by decide +kernel
theorem k139_32 : lkc 32 (kcode 139) = some (.istore 5) := by decide +kernel
theorem k139_34 : lkc 34 (kcode 139) = some (.iload 5) := by decide +kernel
theorem k139_36 : lkc 36 (kcode 139) = some (.iconst 1) := by decide +kernel
theorem k139_37 : lkc 37 (kcode 139) = some (.aload_n 0) := by decide +kernel
theorem k139_38 : lkc 38 (kcode 139) = some (.getfield 19) := by decide +kernel
theorem k139_41 : lkc 41 (kcode 139) = some (.getfield 156) := by decide +kernel
theorem k139_44 : lkc 44 (kcode 139) = some (.ishl) := by decide +kernel
theorem k139_45 : lkc 45 (kcode 139) = some (.if_icmp .ge 58) := by decide +kernel
theorem k139_48 : lkc 48 (kcode 139) = some (.iload 5) := by decide +kernel
theorem k139_50 : lkc 50 (kcode 139) = some (.iload_n 2) := by decide +kernel
theorem k139_51 : lkc 51 (kcode 139) = some (.iconst (-1)) := by decide +kernel
theorem k139_52 : lkc 52 (kcode 139) = some (.ixor) := by decide +kernel
theorem k139_53 : lkc 53 (kcode 139) = some (.iand) := by decide +kernel
theorem k139_54 : lkc 54 (kcode 139) = some (.ifCond .ne 43) := by decide +kernel
theorem k139_57 : lkc 57 (kcode 139) = some (.iload 5) := by decide +kernel
theorem k139_59 : lkc 59 (kcode 139) = some (.invokestatic 176) := by decide +kernel
theorem k139_62 : lkc 62 (kcode 139) = some (.iload 4) := by decide +kernel
theorem k139_64 : lkc 64 (kcode 139) = some (.if_icmp .ge 33) := by decide +kernel
theorem k139_67 : lkc 67 (kcode 139) = some (.iload_n 1) := by decide +kernel
theorem k139_68 : lkc 68 (kcode 139) = some (.aload_n 0) := by decide +kernel
theorem k139_69 : lkc 69 (kcode 139) = some (.getfield 19) := by decide +kernel
theorem k139_72 : lkc 72 (kcode 139) = some (.iload_n 2) := by decide +kernel
theorem k139_73 : lkc 73 (kcode 139) = some (.iload 5) := by decide +kernel
theorem k139_75 : lkc 75 (kcode 139) = some (.iconst (-1)) := by decide +kernel
theorem k139_76 : lkc 76 (kcode 139) = some (.ixor) := by decide +kernel
theorem k139_77 : lkc 77 (kcode 139) = some (.iand) := by decide +kernel
theorem k139_78 : lkc 78 (kcode 139) = some (.invokevirtual 348) := by decide +kernel
theorem k139_81 : lkc 81 (kcode 139) = some (.iconst (-1)) := by decide +kernel
theorem k139_82 : lkc 82 (kcode 139) = some (.ixor) := by decide +kernel
theorem k139_83 : lkc 83 (kcode 139) = some (.iand) := by decide +kernel
theorem k139_84 : lkc 84 (kcode 139) = some (.ifCond .ne 13) := by decide +kernel
theorem k139_87 : lkc 87 (kcode 139) = some (.iload 5) := by decide +kernel
theorem k139_89 : lkc 89 (kcode 139) = some (.istore_n 3) := by decide +kernel
theorem k139_90 : lkc 90 (kcode 139) = some (.iload 5) := by decide +kernel
theorem k139_92 : lkc 92 (kcode 139) = some (.invokestatic 176) := by decide +kernel
theorem k139_95 : lkc 95 (kcode 139) = some (.istore 4) := by decide +kernel
theorem k139_97 : lkc 97 (kcode 139) = some (.iinc 5 1) := by decide +kernel
theorem k139_100 : lkc 100 (kcode 139) = some (.goto (-66)) := by decide +kernel
theorem k139_103 : lkc 103 (kcode 139) = some (.iload_n 3) := by decide +kernel
theorem k139_104 : lkc 104 (kcode 139) = some (.ireturn) := by decide +kernel
theorem k239_0 : lkc 0 (kcode 239) = some (.aload_n 0) := by decide +kernel
theorem k239_1 : lkc 1 (kcode 239) = some (.iconst 0) := by decide +kernel
theorem k239_2 : lkc 2 (kcode 239) = some (.putfield 90) := by decide +kernel
theorem k239_5 : lkc 5 (kcode 239) = some (.aload_n 0) := by decide +kernel
theorem k239_6 : lkc 6 (kcode 239) = some (.getfield 283) := by decide +kernel
theorem k239_9 : lkc 9 (kcode 239) = some (.ifCond .eq 21) := by decide +kernel
theorem k239_12 : lkc 12 (kcode 239) = some (.iload_n 1) := by decide +kernel
theorem k239_13 : lkc 13 (kcode 239) = some (.i2l) := by decide +kernel
theorem k239_14 : lkc 14 (kcode 239) = some (.lconst 1) := by decide +kernel
theorem k239_15 : lkc 15 (kcode 239) = some (.iconst 1) := by decide +kernel
theorem k239_16 : lkc 16 (kcode 239) = some (.aload_n 0) := by decide +kernel
theorem k239_17 : lkc 17 (kcode 239) = some (.getfield 280) := by decide +kernel
theorem k239_20 : lkc 20 (kcode 239) = some (.ishl) := by decide +kernel
theorem k239_21 : lkc 21 (kcode 239) = some (.iconst 1) := by decide +kernel
theorem k239_22 : lkc 22 (kcode 239) = some (.isub) := by decide +kernel
theorem k239_23 : lkc 23 (kcode 239) = some (.i2l) := by decide +kernel
theorem k239_24 : lkc 24 (kcode 239) = some (.invokestatic 211) := by decide +kernel
theorem k239_27 : lkc 27 (kcode 239) = some (.ifCond .ne 5) := by decide +kernel
theorem k239_30 : lkc 30 (kcode 239) = some (.iconst (-1)) := by decide +kernel
theorem k239_31 : lkc 31 (kcode 239) = some (.ireturn) := by decide +kernel
theorem k239_32 : lkc 32 (kcode 239) = some (.iconst (-1)) := by decide +kernel
theorem k239_33 : lkc 33 (kcode 239) = some (.istore_n 2) := by decide +kernel
theorem k239_34 : lkc 34 (kcode 239) = some (.iconst 0) := by decide +kernel
theorem k239_35 : lkc 35 (kcode 239) = some (.istore_n 3) := by decide +kernel
theorem k239_36 : lkc 36 (kcode 239) = some (.iload_n 3) := by decide +kernel
theorem k239_37 : lkc 37 (kcode 239) = some (.iconst 1) := by decide +kernel
theorem k239_38 : lkc 38 (kcode 239) = some (.aload_n 0) := by decide +kernel
theorem k239_39 : lkc 39 (kcode 239) = some (.getfield 283) := by decide +kernel
theorem k239_42 : lkc 42 (kcode 239) = some (.ishl) := by decide +kernel
theorem k239_43 : lkc 43 (kcode 239) = some (.if_icmp .ge 62) := by decide +kernel
theorem k239_46 : lkc 46 (kcode 239) = some (.iload_n 3) := by decide +kernel
theorem k239_47 : lkc 47 (kcode 239) = some (.aload_n 0) := by decide +kernel
theorem k239_48 : lkc 48 (kcode 239) = some (.getfield 58) := by decide +kernel
theorem k239_51 : lkc 51 (kcode 239) = some (.bipush 24) := by decide +kernel
theorem k239_53 : lkc 53 (kcode 239) = some (.iaload) := by decide +kernel
theorem k239_54 : lkc 54 (kcode 239) = some (.iand) := by decide +kernel
theorem k239_55 : lkc 55 (kcode 239) = some (.ifCond .ne 44) := by decide +kernel
theorem k239_58 : lkc 58 (kcode 239) = some (.iload_n 2) := by decide +kernel
theorem k239_59 : lkc 59 (kcode 239) = some (.iconst (-1)) := by decide +kernel
theorem k239_60 : lkc 60 (kcode 239) = some (.if_icmp .eq 17) := by decide +kernel
theorem k239_63 : lkc 63 (kcode 239) = some (.iload_n 3) := by decide +kernel
theorem k239_64 : lkc 64 (kcode 239) = some (.invokestatic 326) := by decide +kernel
theorem k239_67 : lkc 67 (kcode 239) = some (.iload_n 2) := by decide +kernel
theorem k239_68 : lkc 68 (kcode 239) = some (.invokestatic 326) := by decide +kernel
theorem k239_71 : lkc 71 (kcode 239) = some (.if_icmp .lt 6) := by decide +kernel
theorem k239_74 : lkc 74 (kcode 239) = some (.goto 25) := by decide +kernel
theorem k239_77 : lkc 77 (kcode 239) = some (.iload_n 1) := by decide +kernel
theorem k239_78 : lkc 78 (kcode 239) = some (.aload_n 0) := by decide +kernel
theorem k239_79 : lkc 79 (kcode 239) = some (.aload_n 0) := by decide +kernel
theorem k239_80 : lkc 80 (kcode 239) = some (.getfield 58) := by decide +kernel
theorem k239_83 : lkc 83 (kcode 239) = some (.bipush 24) := by decide +kernel
theorem k239_85 : lkc 85 (kcode 239) = some (.iaload) := by decide +kernel
theorem k239_86 : lkc 86 (kcode 239) = some (.iload_n 3) := by decide +kernel
theorem k239_87 : lkc 87 (kcode 239) = some (.ior) := by decide +kernel
theorem k239_88 : lkc 88 (kcode 239) = some (.invokevirtual 319) := by decide +kernel
theorem k239_91 : lkc 91 (kcode 239) = some (.iconst (-1)) := by decide +kernel
theorem k239_92 : lkc 92 (kcode 239) = some (.ixor) := by decide +kernel
theorem k239_93 : lkc 93 (kcode 239) = some (.iand) := by decide +kernel
theorem k239_94 : lkc 94 (kcode 239) = some (.ifCond .ne 5) := by decide +kernel
theorem k239_97 : lkc 97 (kcode 239) = some (.iload_n 3) := by decide +kernel
theorem k239_98 : lkc 98 (kcode 239) = some (.istore_n 2) := by decide +kernel
theorem k239_99 : lkc 99 (kcode 239) = some (.iinc 3 1) := by decide +kernel
theorem k239_102 : lkc 102 (kcode 239) = some (.goto (-66)) := by decide +kernel
theorem k239_105 : lkc 105 (kcode 239) = some (.iload_n 2) := by decide +kernel
theorem k239_106 : lkc 106 (kcode 239) = some (.ireturn) := by decide +kernel
/-! forward: the fewest walls, both sides -/
def few : Option Nat → Nat
  | none => 13
  | some b => pcv b 12
def opI : Option Nat → Int32
  | none => -1
  | some b => nI b
def wlN (q : Nat → Bool) : Nat → Option Nat
  | 0 => none
  | e + 1 => if q e = true ∧ pcv e 12 < few (wlN q e) then some e else wlN q e
theorem wlN_t {q : Nat → Bool} {e : Nat} (h : q e = true) (h2 : pcv e 12 < few (wlN q e)) : wlN q (e + 1) = some e := if_pos ⟨h, h2⟩
theorem wlN_f {q : Nat → Bool} {e : Nat} (h : ¬ (q e = true ∧ pcv e 12 < few (wlN q e))) : wlN q (e + 1) = wlN q e := if_neg h
theorem wlN_lt {q : Nat → Bool} : ∀ e b, wlN q e = some b → b < e
  | 0, b, h => by cases h
  | e + 1, b, h => by
    by_cases c : q e = true ∧ pcv e 12 < few (wlN q e)
    · rw [wlN_t c.1 c.2] at h
      cases h
      exact Nat.lt_succ_self _
    · rw [wlN_f c] at h
      have := wlN_lt e b h
      omega
theorem few_le {o : Option Nat} : few o ≤ 13 := by
  cases o with
  | none => exact Nat.le_refl _
  | some b => exact Nat.le_trans (pcv_le b 12) (by decide)
theorem wl_a {S w e : Nat} (hS : S ≤ 12) (he : e < 2 ^ S) : nI e &&& (nI (opb S w) ^^^ -1) = nI (e &&& w) := by
  refine b_ext (fun i hi => ?_)
  rw [b_and, b_xor, bt_nI hi, bt_nI hi, bt_nI hi, b_m1 i hi, opb_bit, Nat.testBit_and]
  by_cases c : i < S
  · rw [decide_eq_true c]
    cases e.testBit i <;> cases w.testBit i <;> rfl
  · rw [Nat.testBit_lt_two_pow (Nat.lt_of_lt_of_le he (Nat.pow_le_pow_right (by omega) (by omega)))]
    rfl
theorem wl_o {S w e : Nat} : nI (opb S w) &&& (nI e ^^^ -1) = nI (opb S (w ||| e)) := by
  refine b_ext (fun i hi => ?_)
  rw [b_and, b_xor, bt_nI hi, bt_nI hi, bt_nI hi, b_m1 i hi, opb_bit, opb_bit, Nat.testBit_or]
  cases decide (i < S) <;> cases e.testBit i <;> cases w.testBit i <;> rfl
theorem opb_o2 {S w e : Nat} : ∀ i, i < S → (opb S (w ||| e)).testBit i = !((w ||| e).testBit i) := opb_o
theorem or_65 {w e : Nat} (hw : w < 65536) (he : e < 65536) : w ||| e < 65536 := Nat.or_lt_two_pow (n := 16) hw he
def wlV (C S : Nat) (q : Int32 → Nat → Bool) (z v : Int32) : Prop := ((∃ u, 1 ≤ u ∧ u < 2 ^ C ∧ z = nI u) ∧ v = opI (wlN (q z) (2 ^ S))) ∨ (¬ (∃ u, 1 ≤ u ∧ u < 2 ^ C ∧ z = nI u) ∧ v = -1)
theorem wlV_1 {C S : Nat} {q : Int32 → Nat → Bool} {z v u : Int32} (h : wlV C S q z v) (g : wlV C S q z u) : v = u := by
  rcases h with ⟨h1, h2⟩ | ⟨h1, h2⟩ <;> rcases g with ⟨g1, g2⟩ | ⟨g1, g2⟩
  · exact h2.trans g2.symm
  · exact absurd h1 g1
  · exact absurd g1 h1
  · exact h2.trans g2.symm
def wlQ (C S w : Nat) (A B : Nat → Nat) (z : Int32) (e : Nat) : Bool := decide (e &&& w = 0) && decide (z &&& (nI (chp A B S (w ||| e) C) ^^^ -1) = 0)
theorem wlQ_t {C S w : Nat} {A B : Nat → Nat} {z : Int32} {e : Nat} : wlQ C S w A B z e = true ↔ (e &&& w = 0 ∧ z &&& (nI (chp A B S (w ||| e) C) ^^^ -1) = 0) := by
  unfold wlQ
  rw [Bool.and_eq_true, decide_eq_true_iff, decide_eq_true_iff]
theorem c_walls {m : xM} {C S w : Nat} {A B Y : Nat → Nat} {z : Int32} (hr : rS m) (hT : xT m C S A B Y) (hw : m.1 89 0 = nI w) (hw2 : w < 65536) : fC 139 [.ref 0, .int z] m (fun rv m' => ∃ v, rv = some (.int v) ∧ wlV C S (wlQ C S w A B) z v) := by
  refine fC_of (by decide) (fun d n P H => ?_)
  have hC8 : C ≤ 8 := hT.2.2.1
  have hS12 : S ≤ 12 := hT.2.2.2.1
  have pC : (2 : Nat) ^ C ≤ 2 ^ 8 := Nat.pow_le_pow_right (by omega) hC8
  have pS : (2 : Nat) ^ S ≤ 2 ^ 12 := Nat.pow_le_pow_right (by omega) hS12
  rw [show (2 : Nat) ^ 8 = 256 from rfl] at pC
  rw [show (2 : Nat) ^ 12 = 4096 from rfl] at pS
  have neg : ∀ n, ¬ (∃ u, 1 ≤ u ∧ u < 2 ^ C ∧ z = nI u) → xF 139 (xw d) P n 18 [(0, .ref 0), (1, .int z)] [] m → ∃ rv m', P rv m' ∧ ∃ v, rv = some (.int v) ∧ wlV C S (wlQ C S w A B) z v := by
    intro n hn H
    replace H := f_iconst H k139_18 (v := -1) (by decide)
    replace H := f_iret H k139_19
    exact ⟨_, _, H, _, rfl, Or.inr ⟨hn, rfl⟩⟩
  replace H := f_iload_n H k139_0 rfl
  replace H := f_iconst H k139_1 (v := 1) (by decide)
  have Hbr := f_icmp_lt H k139_2 (t := 18) (by decide)
  clear H
  rcases Hbr with ⟨c1, H⟩ | ⟨c1, H⟩
  · rw [Int32.lt_iff_toInt_lt, show (1 : Int32).toInt = 1 by decide] at c1
    exact neg _ (fun ⟨u, u1, u2, e⟩ => by rw [e, nI_toInt (by omega)] at c1; omega) H
  · rw [Int32.lt_iff_toInt_lt, show (1 : Int32).toInt = 1 by decide] at c1
    replace H := f_iload_n H k139_5 rfl
    replace H := f_iconst H k139_6 (v := 1) (by decide)
    replace H := f_aload_n H k139_7 rfl
    replace H := f_gr H k139_8 (ci := 11) (f := 1) (x := 3) (by decide +kernel) (by decide) (hr 0 1 3 rfl)
    replace H := f_gi H k139_11 (ci := 5) (f := 0) (by decide +kernel) (by decide)
    replace H := f_ishl H k139_14
    rw [hT.1, shl_n (by omega)] at H
    have Hbr := f_icmp_lt H k139_15 (t := 20) (by decide)
    clear H
    rcases Hbr with ⟨c2, H⟩ | ⟨c2, H⟩
    · rw [Int32.lt_iff_toInt_lt, nI_toInt (by omega)] at c2
      obtain ⟨u, hu, hz⟩ := i_rng (x := z) (L := 255) (by omega) (by omega) (by decide)
      have hu2 : 1 ≤ u ∧ u < 2 ^ C := by
        rw [hz, nI_toInt (by omega)] at c1 c2
        omega
      replace H := f_aload_n H k139_20 rfl
      obtain ⟨rv, m5, ⟨rfl, e3⟩, h9_21⟩ := f_inv H k139_21 (by decide +kernel) (as := []) (b := 0) (r := []) (by rfl) (c_openNow hr hT hw)
      replace H := h9_21
      rw [← e3] at H
      clear e3
      obtain ⟨q, hq⟩ : ∃ q, q = wlQ C S w A B z := ⟨_, rfl⟩
      have lp : ∀ n e, e ≤ 2 ^ S → xF 139 (xw d) P n 34 [(5, .int (nI e)), (4, .int (nI (few (wlN q e)))), (3, .int (opI (wlN q e))), (2, .int (nI (opb S w))), (0, .ref 0), (1, .int z)] [] m → ∃ rv m', P rv m' ∧ ∃ v, rv = some (.int v) ∧ wlV C S (wlQ C S w A B) z v := by
        intro n
        induction n with
        | zero => exact fun e _ H => (xF_0 H).elim
        | succ n ih =>
          intro e he H
          have f13 := few_le (o := wlN q e)
          have pc12 := pcv_le e 12
          have no : ¬ (q e = true ∧ pcv e 12 < few (wlN q e)) → e < 2 ^ S → xF 139 (xw d) P n 97 [(5, .int (nI e)), (4, .int (nI (few (wlN q e)))), (3, .int (opI (wlN q e))), (2, .int (nI (opb S w))), (0, .ref 0), (1, .int z)] [] m → ∃ rv m', P rv m' ∧ ∃ v, rv = some (.int v) ∧ wlV C S (wlQ C S w A B) z v := by
            intro h9 he2 H
            replace H := f_iinc H k139_97 rfl (l2 := [(5, .int (nI e + 1)), (4, .int (nI (few (wlN q e)))), (3, .int (opI (wlN q e))), (2, .int (nI (opb S w))), (0, .ref 0), (1, .int z)]) rfl
            replace H := f_goto H k139_100 (t := 34) (by decide)
            rw [nI_s, ← wlN_f h9] at H
            exact ih (e + 1) (by omega) H
          replace H := f1_iload H k139_34 rfl
          replace H := f_iconst H k139_36 (v := 1) (by decide)
          replace H := f_aload_n H k139_37 rfl
          replace H := f_gr H k139_38 (ci := 11) (f := 1) (x := 3) (by decide +kernel) (by decide) (hr 0 1 3 rfl)
          replace H := f_gi H k139_41 (ci := 5) (f := 1) (by decide +kernel) (by decide)
          replace H := f_ishl H k139_44
          rw [hT.2.1, shl_n (by omega)] at H
          have Hbr := f_icmp_ge H k139_45 (t := 103) (by decide)
          clear H
          rcases Hbr with ⟨c0, H⟩ | ⟨c0, H⟩
          · rw [nxle (by omega) (by omega)] at c0
            have ee : e = 2 ^ S := by omega
            replace H := f_iload_n H k139_103 rfl
            replace H := f_iret H k139_104
            refine ⟨_, _, H, _, rfl, Or.inl ⟨⟨u, hu2.1, hu2.2, hz⟩, ?_⟩⟩
            rw [ee, hq]
          · rw [nxle (by omega) (by omega)] at c0
            have he2 : e < 2 ^ S := by omega
            replace H := f_iload H k139_48 rfl
            replace H := f_iload_n H k139_50 rfl
            replace H := f_iconst H k139_51 (v := -1) (by decide)
            replace H := f_ixor H k139_52
            replace H := f_iand H k139_53
            rw [wl_a hS12 he2] at H
            have Hbr := f_if_ne H k139_54 (t := 97) (by decide)
            clear H
            rcases Hbr with ⟨c3, H⟩ | ⟨c3, H⟩
            · exact no (fun h => c3 (by rw [hq] at h; exact congrArg nI (wlQ_t.mp h.1).1)) he2 H
            · have hew : e &&& w < 2 ^ 12 := Nat.lt_of_le_of_lt Nat.and_le_left (Nat.lt_of_lt_of_le he2 pS)
              rw [show (2 : Nat) ^ 12 = 4096 from rfl] at hew
              rw [show (0 : Int32) = nI 0 from rfl, nI_inj (by omega) (by omega)] at c3
              replace H := f_iload H k139_57 rfl
              obtain ⟨rv, m6, ⟨rfl, e3⟩, h9_59⟩ := f_ins H k139_59 (by decide +kernel) (as := [.int _]) (r := []) (by rfl) (c_bitCount (v := e) (by omega))
              replace H := h9_59
              rw [← e3] at H
              clear e3
              replace H := f_iload H k139_62 rfl
              have Hbr := f_icmp_ge H k139_64 (t := 97) (by decide)
              clear H
              rcases Hbr with ⟨c4, H⟩ | ⟨c4, H⟩
              · rw [nxle (by omega) (by omega)] at c4
                exact no (fun h => by omega) he2 H
              · rw [nxle (by omega) (by omega)] at c4
                replace H := f_iload_n H k139_67 rfl
                replace H := f_aload_n H k139_68 rfl
                replace H := f_gr H k139_69 (ci := 11) (f := 1) (x := 3) (by decide +kernel) (by decide) (hr 0 1 3 rfl)
                replace H := f_iload_n H k139_72 rfl
                replace H := f_iload H k139_73 rfl
                replace H := f_iconst H k139_75 (v := -1) (by decide)
                replace H := f_ixor H k139_76
                replace H := f_iand H k139_77
                rw [wl_o] at H
                obtain ⟨rv, m7, ⟨rfl, e3⟩, h9_78⟩ := f_inv H k139_78 (by decide +kernel) (as := [.int _]) (b := 3) (r := [.int _]) (by rfl) (c_chapelsAmong hr hT (opb_o2 (w := w) (e := e)))
                replace H := h9_78
                rw [← e3] at H
                clear e3
                replace H := f_iconst H k139_81 (v := -1) (by decide)
                replace H := f_ixor H k139_82
                replace H := f_iand H k139_83
                have Hbr := f_if_ne H k139_84 (t := 97) (by decide)
                clear H
                rcases Hbr with ⟨c5, H⟩ | ⟨c5, H⟩
                · exact no (fun h => c5 (by rw [hq] at h; exact (wlQ_t.mp h.1).2)) he2 H
                · have h9 : q e = true := by rw [hq]; exact wlQ_t.mpr ⟨c3, c5⟩
                  have h8 : wlN q (e + 1) = some e := wlN_t h9 (by omega)
                  replace H := f_iload H k139_87 rfl
                  replace H := f_istore_n H k139_89 (l2 := [(3, .int (nI e)), (5, .int (nI e)), (4, .int (nI (few (wlN q e)))), (2, .int (nI (opb S w))), (0, .ref 0), (1, .int z)]) rfl
                  replace H := f_iload H k139_90 rfl
                  obtain ⟨rv, m8, ⟨rfl, e3⟩, h9_92⟩ := f_ins H k139_92 (by decide +kernel) (as := [.int _]) (r := []) (by rfl) (c_bitCount (v := e) (by omega))
                  replace H := h9_92
                  rw [← e3] at H
                  clear e3
                  replace H := f_istore H k139_95 (l2 := [(4, .int _), (3, .int (nI e)), (5, .int (nI e)), (2, .int (nI (opb S w))), (0, .ref 0), (1, .int z)]) rfl
                  replace H := f_iinc H k139_97 rfl (l2 := [(5, .int (nI e + 1)), (4, .int _), (3, .int (nI e)), (2, .int (nI (opb S w))), (0, .ref 0), (1, .int z)]) rfl
                  replace H := f_goto H k139_100 (t := 34) (by decide)
                  rw [nI_s] at H
                  refine ih (e + 1) (by omega) ?_
                  rw [h8]
                  exact H
      replace H := f_istore_n H k139_24 (l2 := [(2, .int _), (0, .ref 0), (1, .int z)]) rfl
      replace H := f_iconst H k139_25 (v := -1) (by decide)
      replace H := f_istore_n H k139_26 (l2 := [(3, .int (-1)), (2, .int _), (0, .ref 0), (1, .int z)]) rfl
      replace H := f_bipush H k139_27 (v := 13) (by decide)
      replace H := f_istore H k139_29 (l2 := [(4, .int 13), (3, .int (-1)), (2, .int _), (0, .ref 0), (1, .int z)]) rfl
      replace H := f_iconst H k139_31 (v := 0) (by decide)
      replace H := f_istore H k139_32 (l2 := [(5, .int 0), (4, .int 13), (3, .int (-1)), (2, .int _), (0, .ref 0), (1, .int z)]) rfl
      exact lp _ 0 (Nat.zero_le _) H
    · rw [Int32.lt_iff_toInt_lt, nI_toInt (by omega)] at c2
      exact neg _ (fun ⟨u, u1, u2, e⟩ => by rw [e, nI_toInt (by omega)] at c2; omega) H
theorem c_mwalls {m : xM} {C S w : Nat} {A B Y : Nat → Nat} {z : Int32} (hr : rS m) (hT : mT m C S A B Y) (hCS : C = 0 ↔ S = 0) (hw : m.1 326 24 = nI w) (hw2 : w < 65536) : fC 239 [.ref 314, .int z] m (fun rv m' => ∃ v, rv = some (.int v) ∧ wlV C S (wlQ C S w A B) z v) := by
  refine fC_of (by decide) (fun d n P H => ?_)
  have c24 : (24 : Int32).toNatClampNeg = 24 := by decide
  replace H := f_aload_n H k239_0 rfl
  replace H := f_iconst H k239_1 (v := 0) (by decide)
  replace H := f_put_i H k239_2 (ci := 12) (f := 0) (by decide +kernel) (by decide)
  have hr : rS (mI m 314 0 0) := hr
  have hT : mT (mI m 314 0 0) C S A B Y := mT_f hT (fun i => ⟨⟨mI_ne (by omega), mI_ne (by omega)⟩, mI_ne (by omega)⟩)
  have hw : (mI m 314 0 0).1 326 24 = nI w := by rw [mI_ne (by omega)]; exact hw
  generalize mI m 314 0 0 = m at *
  have hC8 : C ≤ 8 := hT.2.2.1
  have hS12 : S ≤ 12 := hT.2.2.2.1
  have pC : (2 : Nat) ^ C ≤ 2 ^ 8 := Nat.pow_le_pow_right (by omega) hC8
  have pS : (2 : Nat) ^ S ≤ 2 ^ 12 := Nat.pow_le_pow_right (by omega) hS12
  rw [show (2 : Nat) ^ 8 = 256 from rfl] at pC
  rw [show (2 : Nat) ^ 12 = 4096 from rfl] at pS
  have neg : ∀ n, ¬ (∃ u, 1 ≤ u ∧ u < 2 ^ C ∧ z = nI u) → xF 239 (xw d) P n 30 [(0, .ref 314), (1, .int z)] [] m → ∃ rv m', P rv m' ∧ ∃ v, rv = some (.int v) ∧ wlV C S (wlQ C S w A B) z v := by
    intro n hn H
    replace H := f_iconst H k239_30 (v := -1) (by decide)
    replace H := f_iret H k239_31
    exact ⟨_, _, H, _, rfl, Or.inr ⟨hn, rfl⟩⟩
  replace H := f_aload_n H k239_5 rfl
  replace H := f_gi H k239_6 (ci := 12) (f := 26) (by decide +kernel) (by decide)
  rw [hT.2.1] at H
  have Hbr := f_if_eq H k239_9 (t := 30) (by decide)
  clear H
  rcases Hbr with ⟨c1, H⟩ | ⟨c1, H⟩
  · rw [show (0 : Int32) = nI 0 from rfl, nI_inj (by omega) (by omega)] at c1
    have hC0 := hCS.mpr c1
    exact neg _ (fun ⟨u, u1, u2, e⟩ => by rw [hC0] at u2; replace u2 : u < 1 := u2; omega) H
  · replace H := f_iload_n H k239_12 rfl
    replace H := f_i2l H k239_13
    replace H := f_lconst H k239_14 (v := 1) (by decide)
    replace H := f_iconst H k239_15 (v := 1) (by decide)
    replace H := f_aload_n H k239_16 rfl
    replace H := f_gi H k239_17 (ci := 12) (f := 25) (by decide +kernel) (by decide)
    replace H := f_ishl H k239_20
    replace H := f_iconst H k239_21 (v := 1) (by decide)
    replace H := f_isub H k239_22
    replace H := f_i2l H k239_23
    rw [hT.1, shl_n (by omega)] at H
    have p1 : 1 ≤ 2 ^ C := Nat.one_le_two_pow
    have hsub : nI (2 ^ C) - 1 = nI (2 ^ C - 1) := nI_sub (b := 1) (by omega) p1
    obtain ⟨rv, m3, ⟨ho, e3⟩, h9_24⟩ := f_ins H k239_24 (by decide +kernel) (as := [.long _, .long _, .long _]) (r := []) (by rfl) (c_isInK (v := z) (l := 1) (mo := nI (2 ^ C) - 1) (by decide) rfl)
    replace H := h9_24
    rw [← e3] at H
    clear e3
    rcases ho with ⟨o1, o2, rfl⟩ | ⟨o1, rfl⟩
    · rw [Int32.le_iff_toInt_le] at o1 o2
      rw [show (1 : Int32).toInt = 1 by decide] at o1
      rw [hsub, nI_toInt (by omega)] at o2
      obtain ⟨u, hu, hz⟩ := i_rng (x := z) (L := 255) (by omega) (by omega) (by decide)
      have hu2 : 1 ≤ u ∧ u < 2 ^ C := by
        rw [hz, nI_toInt (by omega)] at o1 o2
        omega
      obtain ⟨q, hq⟩ : ∃ q, q = wlQ C S w A B z := ⟨_, rfl⟩
      have lp : ∀ n e, e ≤ 2 ^ S → xF 239 (xw d) P n 36 [(3, .int (nI e)), (2, .int (opI (wlN q e))), (0, .ref 314), (1, .int z)] [] m → ∃ rv m', P rv m' ∧ ∃ v, rv = some (.int v) ∧ wlV C S (wlQ C S w A B) z v := by
        intro n
        induction n with
        | zero => exact fun e _ H => (xF_0 H).elim
        | succ n ih =>
          intro e he H
          have pc12 := pcv_le e 12
          have no : ¬ (q e = true ∧ pcv e 12 < few (wlN q e)) → e < 2 ^ S → xF 239 (xw d) P n 99 [(3, .int (nI e)), (2, .int (opI (wlN q e))), (0, .ref 314), (1, .int z)] [] m → ∃ rv m', P rv m' ∧ ∃ v, rv = some (.int v) ∧ wlV C S (wlQ C S w A B) z v := by
            intro h9 he2 H
            replace H := f_iinc H k239_99 rfl (l2 := [(3, .int (nI e + 1)), (2, .int (opI (wlN q e))), (0, .ref 314), (1, .int z)]) rfl
            replace H := f_goto H k239_102 (t := 36) (by decide)
            rw [nI_s, ← wlN_f h9] at H
            exact ih (e + 1) (by omega) H
          replace H := f1_iload_n H k239_36 rfl
          replace H := f_iconst H k239_37 (v := 1) (by decide)
          replace H := f_aload_n H k239_38 rfl
          replace H := f_gi H k239_39 (ci := 12) (f := 26) (by decide +kernel) (by decide)
          replace H := f_ishl H k239_42
          rw [hT.2.1, shl_n (by omega)] at H
          have Hbr := f_icmp_ge H k239_43 (t := 105) (by decide)
          clear H
          rcases Hbr with ⟨c0, H⟩ | ⟨c0, H⟩
          · rw [nxle (by omega) (by omega)] at c0
            have ee : e = 2 ^ S := by omega
            replace H := f_iload_n H k239_105 rfl
            replace H := f_iret H k239_106
            refine ⟨_, _, H, _, rfl, Or.inl ⟨⟨u, hu2.1, hu2.2, hz⟩, ?_⟩⟩
            rw [ee, hq]
          · rw [nxle (by omega) (by omega)] at c0
            have he2 : e < 2 ^ S := by omega
            replace H := f_iload_n H k239_46 rfl
            replace H := f_aload_n H k239_47 rfl
            replace H := f_gr H k239_48 (ci := 12) (f := 32) (x := 326) (by decide +kernel) (by decide) (hr 314 32 326 rfl)
            replace H := f_bipush H k239_51 (v := 24) (by decide)
            have Hob := f_iald H k239_53 (c := 208) (by decide)
            clear H
            obtain ⟨hb53, H⟩ := Hob
            replace H := f_iand H k239_54
            rw [c24, hw, fa_and] at H
            have Hbr := f_if_ne H k239_55 (t := 99) (by decide)
            clear H
            rcases Hbr with ⟨c3, H⟩ | ⟨c3, H⟩
            · exact no (fun h => c3 (by rw [hq] at h; exact congrArg nI (wlQ_t.mp h.1).1)) he2 H
            · have hew : e &&& w < 4096 := Nat.lt_of_le_of_lt Nat.and_le_left (Nat.lt_of_lt_of_le he2 pS)
              rw [show (0 : Int32) = nI 0 from rfl, nI_inj (by omega) (by omega)] at c3
              have go : pcv e 12 < few (wlN q e) → xF 239 (xw d) P n 77 [(3, .int (nI e)), (2, .int (opI (wlN q e))), (0, .ref 314), (1, .int z)] [] m → ∃ rv m', P rv m' ∧ ∃ v, rv = some (.int v) ∧ wlV C S (wlQ C S w A B) z v := by
                intro hfe H
                replace H := f_iload_n H k239_77 rfl
                replace H := f_aload_n H k239_78 rfl
                replace H := f_aload_n H k239_79 rfl
                replace H := f_gr H k239_80 (ci := 12) (f := 32) (x := 326) (by decide +kernel) (by decide) (hr 314 32 326 rfl)
                replace H := f_bipush H k239_83 (v := 24) (by decide)
                have Hob := f_iald H k239_85 (c := 208) (by decide)
                clear H
                obtain ⟨hb85, H⟩ := Hob
                replace H := f_iload_n H k239_86 rfl
                replace H := f_ior H k239_87
                rw [c24, hw, fa_or] at H
                obtain ⟨rv, m7, ⟨rfl, e3⟩, h9_88⟩ := f_inv H k239_88 (by decide +kernel) (as := [.int _]) (b := 314) (r := [.int _]) (by rfl) (c_mchapels hr hT (or_65 hw2 (by omega)))
                replace H := h9_88
                rw [← e3] at H
                clear e3
                replace H := f_iconst H k239_91 (v := -1) (by decide)
                replace H := f_ixor H k239_92
                replace H := f_iand H k239_93
                have Hbr := f_if_ne H k239_94 (t := 99) (by decide)
                clear H
                rcases Hbr with ⟨c5, H⟩ | ⟨c5, H⟩
                · exact no (fun h => c5 (by rw [hq] at h; exact (wlQ_t.mp h.1).2)) he2 H
                · have h9 : q e = true := by rw [hq]; exact wlQ_t.mpr ⟨c3, c5⟩
                  have h8 : wlN q (e + 1) = some e := wlN_t h9 hfe
                  replace H := f_iload_n H k239_97 rfl
                  replace H := f_istore_n H k239_98 (l2 := [(2, .int (nI e)), (3, .int (nI e)), (0, .ref 314), (1, .int z)]) rfl
                  replace H := f_iinc H k239_99 rfl (l2 := [(3, .int (nI e + 1)), (2, .int (nI e)), (0, .ref 314), (1, .int z)]) rfl
                  replace H := f_goto H k239_102 (t := 36) (by decide)
                  rw [nI_s] at H
                  refine ih (e + 1) (by omega) ?_
                  rw [h8]
                  exact H
              replace H := f_iload_n H k239_58 rfl
              replace H := f_iconst H k239_59 (v := -1) (by decide)
              cases hb : wlN q e with
              | none =>
                replace H := f_icmp_eq_t H k239_60 (by rw [hb]; rfl) (t := 77) (by decide)
                exact go (by rw [hb]; show pcv e 12 < 13; omega) H
              | some b =>
                have hbe := wlN_lt e b hb
                rw [show opI (wlN q e) = nI b by rw [hb]; rfl] at H
                replace H := f_icmp_eq_f H k239_60 (nI_ne1 (by omega))
                replace H := f_iload_n H k239_63 rfl
                obtain ⟨rv, m6, ⟨rfl, e3⟩, h9_64⟩ := f_ins H k239_64 (by decide +kernel) (as := [.int _]) (r := []) (by rfl) (c_bitCount (v := e) (by omega))
                replace H := h9_64
                rw [← e3] at H
                clear e3
                replace H := f_iload_n H k239_67 rfl
                obtain ⟨rv, m6, ⟨rfl, e3⟩, h9_68⟩ := f_ins H k239_68 (by decide +kernel) (as := [.int _]) (r := [.int _]) (by rfl) (c_bitCount (v := b) (by omega))
                replace H := h9_68
                rw [← e3] at H
                clear e3
                have pb12 := pcv_le b 12
                have hfb : few (wlN q e) = pcv b 12 := by rw [hb]; rfl
                have hob : opI (wlN q e) = nI b := by rw [hb]; rfl
                have Hbr := f_icmp_lt H k239_71 (t := 77) (by decide)
                clear H
                rcases Hbr with ⟨c6, H⟩ | ⟨c6, H⟩
                · rw [nxlt (by omega) (by omega)] at c6
                  rw [← hob] at H
                  exact go (by omega) H
                · rw [nxlt (by omega) (by omega)] at c6
                  replace H := f_goto H k239_74 (t := 99) (by decide)
                  rw [← hob] at H
                  exact no (fun h => by omega) he2 H
      replace H := f_if_ne_t H k239_27 (by decide) (t := 32) (by decide)
      replace H := f_iconst H k239_32 (v := -1) (by decide)
      replace H := f_istore_n H k239_33 (l2 := [(2, .int (-1)), (0, .ref 314), (1, .int z)]) rfl
      replace H := f_iconst H k239_34 (v := 0) (by decide)
      replace H := f_istore_n H k239_35 (l2 := [(3, .int 0), (2, .int (-1)), (0, .ref 314), (1, .int z)]) rfl
      exact lp _ 0 (Nat.zero_le _) H
    · replace H := f_if_ne_f H k239_27 rfl
      rw [Int32.lt_iff_toInt_lt, Int32.lt_iff_toInt_lt, show (1 : Int32).toInt = 1 by decide, hsub, nI_toInt (by omega)] at o1
      exact neg _ (fun ⟨u, u1, u2, e⟩ => by rw [e, nI_toInt (by omega)] at o1; omega) H
