theorem k146_0 : lkc 0 (kcode 146) = some (.aload_n 0) := by decide +kernel
theorem k146_1 : lkc 1 (kcode 146) = some (.iload_n 1) := by decide +kernel
theorem k146_2 : lkc 2 (kcode 146) = some (.invokevirtual 196) := by decide +kernel
theorem k146_5 : lkc 5 (kcode 146) = some (.ifCond .eq 13) := by decide +kernel
theorem k146_8 : lkc 8 (kcode 146) = some (.iload_n 2) := by decide +kernel
theorem k146_9 : lkc 9 (kcode 146) = some (.ifCond .lt 9) := by decide +kernel
theorem k146_12 : lkc 12 (kcode 146) = some (.iload_n 2) := by decide +kernel
theorem k146_13 : lkc 13 (kcode 146) = some (.bipush 100) := by decide +kernel
theorem k146_15 : lkc 15 (kcode 146) = some (.if_icmp .le 5) := by decide +kernel
theorem k146_18 : lkc 18 (kcode 146) = some (.iconst (-1)) := by decide +kernel
theorem k146_19 : lkc 19 (kcode 146) = some (.ireturn) := by decide +kernel
theorem k146_20 : lkc 20 (kcode 146) = some (.aload_n 0) := by decide +kernel
theorem k146_21 : lkc 21 (kcode 146) = some (.getfield 61) := by decide +kernel
theorem k146_24 : lkc 24 (kcode 146) = some (.aload_n 0) := by decide +kernel
theorem k146_25 : lkc 25 (kcode 146) = some (.getfield 75) := by decide +kernel
theorem k146_28 : lkc 28 (kcode 146) = some (.invokevirtual 253) := by decide +kernel
theorem k146_31 : lkc 31 (kcode 146) = some (.ldc2_w 371) := by decide +kernel
theorem k146_34 : lkc 34 (kcode 146) = some (.lstore_n 3) := by decide +kernel
theorem k146_35 : lkc 35 (kcode 146) = some (.iconst 0) := by decide +kernel
theorem k146_36 : lkc 36 (kcode 146) = some (.istore 5) := by decide +kernel
theorem k146_38 : lkc 38 (kcode 146) = some (.iload 5) := by decide +kernel
theorem k146_40 : lkc 40 (kcode 146) = some (.aload_n 0) := by decide +kernel
theorem k146_41 : lkc 41 (kcode 146) = some (.getfield 19) := by decide +kernel
theorem k146_44 : lkc 44 (kcode 146) = some (.getfield 216) := by decide +kernel
theorem k146_47 : lkc 47 (kcode 146) = some (.if_icmp .ge 35) := by decide +kernel
theorem k146_50 : lkc 50 (kcode 146) = some (.aload_n 0) := by decide +kernel
theorem k146_51 : lkc 51 (kcode 146) = some (.getfield 61) := by decide +kernel
theorem k146_54 : lkc 54 (kcode 146) = some (.aload_n 0) := by decide +kernel
theorem k146_55 : lkc 55 (kcode 146) = some (.getfield 75) := by decide +kernel
theorem k146_58 : lkc 58 (kcode 146) = some (.iload_n 1) := by decide +kernel
theorem k146_59 : lkc 59 (kcode 146) = some (.iload 5) := by decide +kernel
theorem k146_61 : lkc 61 (kcode 146) = some (.invokevirtual 373) := by decide +kernel
theorem k146_64 : lkc 64 (kcode 146) = some (.ifCond .eq 12) := by decide +kernel
theorem k146_67 : lkc 67 (kcode 146) = some (.lload_n 3) := by decide +kernel
theorem k146_68 : lkc 68 (kcode 146) = some (.iload_n 2) := by decide +kernel
theorem k146_69 : lkc 69 (kcode 146) = some (.i2l) := by decide +kernel
theorem k146_70 : lkc 70 (kcode 146) = some (.lmul) := by decide +kernel
theorem k146_71 : lkc 71 (kcode 146) = some (.ldc2_w 377) := by decide +kernel
theorem k146_74 : lkc 74 (kcode 146) = some (.ldiv) := by decide +kernel
theorem k146_75 : lkc 75 (kcode 146) = some (.lstore_n 3) := by decide +kernel
theorem k146_76 : lkc 76 (kcode 146) = some (.iinc 5 1) := by decide +kernel
theorem k146_79 : lkc 79 (kcode 146) = some (.goto (-41)) := by decide +kernel
theorem k146_82 : lkc 82 (kcode 146) = some (.ldc2_w 371) := by decide +kernel
theorem k146_85 : lkc 85 (kcode 146) = some (.lload_n 3) := by decide +kernel
theorem k146_86 : lkc 86 (kcode 146) = some (.lsub) := by decide +kernel
theorem k146_87 : lkc 87 (kcode 146) = some (.l2i) := by decide +kernel
theorem k146_88 : lkc 88 (kcode 146) = some (.ireturn) := by decide +kernel
theorem k249_0 : lkc 0 (kcode 249) = some (.aload_n 0) := by decide +kernel
theorem k249_1 : lkc 1 (kcode 249) = some (.iconst 0) := by decide +kernel
theorem k249_2 : lkc 2 (kcode 249) = some (.putfield 90) := by decide +kernel
theorem k249_5 : lkc 5 (kcode 249) = some (.aload_n 0) := by decide +kernel
theorem k249_6 : lkc 6 (kcode 249) = some (.iload_n 1) := by decide +kernel
theorem k249_7 : lkc 7 (kcode 249) = some (.invokevirtual 362) := by decide +kernel
theorem k249_10 : lkc 10 (kcode 249) = some (.ifCond .eq 15) := by decide +kernel
theorem k249_13 : lkc 13 (kcode 249) = some (.iload_n 2) := by decide +kernel
theorem k249_14 : lkc 14 (kcode 249) = some (.i2l) := by decide +kernel
theorem k249_15 : lkc 15 (kcode 249) = some (.lconst 0) := by decide +kernel
theorem k249_16 : lkc 16 (kcode 249) = some (.ldc2_w 456) := by decide +kernel
theorem k249_19 : lkc 19 (kcode 249) = some (.invokestatic 211) := by decide +kernel
theorem k249_22 : lkc 22 (kcode 249) = some (.ifCond .ne 5) := by decide +kernel
theorem k249_25 : lkc 25 (kcode 249) = some (.iconst (-1)) := by decide +kernel
theorem k249_26 : lkc 26 (kcode 249) = some (.ireturn) := by decide +kernel
theorem k249_27 : lkc 27 (kcode 249) = some (.aload_n 0) := by decide +kernel
theorem k249_28 : lkc 28 (kcode 249) = some (.aload_n 0) := by decide +kernel
theorem k249_29 : lkc 29 (kcode 249) = some (.getfield 58) := by decide +kernel
theorem k249_32 : lkc 32 (kcode 249) = some (.bipush 24) := by decide +kernel
theorem k249_34 : lkc 34 (kcode 249) = some (.iaload) := by decide +kernel
theorem k249_35 : lkc 35 (kcode 249) = some (.invokevirtual 341) := by decide +kernel
theorem k249_38 : lkc 38 (kcode 249) = some (.ldc_w 458) := by decide +kernel
theorem k249_41 : lkc 41 (kcode 249) = some (.istore_n 3) := by decide +kernel
theorem k249_42 : lkc 42 (kcode 249) = some (.iconst 0) := by decide +kernel
theorem k249_43 : lkc 43 (kcode 249) = some (.istore 4) := by decide +kernel
theorem k249_45 : lkc 45 (kcode 249) = some (.iload 4) := by decide +kernel
theorem k249_47 : lkc 47 (kcode 249) = some (.aload_n 0) := by decide +kernel
theorem k249_48 : lkc 48 (kcode 249) = some (.getfield 280) := by decide +kernel
theorem k249_51 : lkc 51 (kcode 249) = some (.if_icmp .ge 37) := by decide +kernel
theorem k249_54 : lkc 54 (kcode 249) = some (.aload_n 0) := by decide +kernel
theorem k249_55 : lkc 55 (kcode 249) = some (.aload_n 0) := by decide +kernel
theorem k249_56 : lkc 56 (kcode 249) = some (.getfield 58) := by decide +kernel
theorem k249_59 : lkc 59 (kcode 249) = some (.iload_n 1) := by decide +kernel
theorem k249_60 : lkc 60 (kcode 249) = some (.iload 4) := by decide +kernel
theorem k249_62 : lkc 62 (kcode 249) = some (.invokevirtual 337) := by decide +kernel
theorem k249_65 : lkc 65 (kcode 249) = some (.ldc_w 325) := by decide +kernel
theorem k249_68 : lkc 68 (kcode 249) = some (.if_icmp .eq 14) := by decide +kernel
theorem k249_71 : lkc 71 (kcode 249) = some (.iload_n 3) := by decide +kernel
theorem k249_72 : lkc 72 (kcode 249) = some (.i2l) := by decide +kernel
theorem k249_73 : lkc 73 (kcode 249) = some (.iload_n 2) := by decide +kernel
theorem k249_74 : lkc 74 (kcode 249) = some (.i2l) := by decide +kernel
theorem k249_75 : lkc 75 (kcode 249) = some (.lmul) := by decide +kernel
theorem k249_76 : lkc 76 (kcode 249) = some (.ldc2_w 456) := by decide +kernel
theorem k249_79 : lkc 79 (kcode 249) = some (.ldiv) := by decide +kernel
theorem k249_80 : lkc 80 (kcode 249) = some (.l2i) := by decide +kernel
theorem k249_81 : lkc 81 (kcode 249) = some (.istore_n 3) := by decide +kernel
theorem k249_82 : lkc 82 (kcode 249) = some (.iinc 4 1) := by decide +kernel
theorem k249_85 : lkc 85 (kcode 249) = some (.goto (-40)) := by decide +kernel
theorem k249_88 : lkc 88 (kcode 249) = some (.ldc_w 458) := by decide +kernel
theorem k249_91 : lkc 91 (kcode 249) = some (.iload_n 3) := by decide +kernel
theorem k249_92 : lkc 92 (kcode 249) = some (.isub) := by decide +kernel
theorem k249_93 : lkc 93 (kcode 249) = some (.ireturn) := by decide +kernel
/-! forward: the odds, both sides -/
def gB (k : Nat) (t : Mt) (U h e : Nat) : Bool := k.testBit e && decide (t h e < U)
theorem gB_t {k : Nat} {t : Mt} {U h e : Nat} (q : isG k t U h e) : gB k t U h e = true := by
  unfold gB
  rw [q.1, decide_eq_true q.2]
  rfl
theorem gB_f {k : Nat} {t : Mt} {U h e : Nat} (q : ¬ isG k t U h e) : gB k t U h e = false := by
  unfold gB
  by_cases c : k.testBit e = true
  · rw [c, decide_eq_false (fun z => q ⟨c, z⟩)]
    rfl
  · rw [eq_false_of_ne_true c]
    rfl
/-- what is left of the parts behind the first e corners -/
def lod (ch : Nat) (g : Nat → Bool) : Nat → Nat
  | 0 => 1000000000
  | e + 1 => if g e then lod ch g e * ch / 100 else lod ch g e
theorem lod_t {ch e : Nat} {g : Nat → Bool} (h : g e = true) : lod ch g (e + 1) = lod ch g e * ch / 100 := if_pos h
theorem lod_f {ch e : Nat} {g : Nat → Bool} (h : g e = false) : lod ch g (e + 1) = lod ch g e := if_neg (by rw [h]; decide)
theorem lod_le {ch : Nat} {g : Nat → Bool} (hc : ch ≤ 100) : ∀ e, lod ch g e ≤ 1000000000
  | 0 => Nat.le_refl _
  | e + 1 => by
    have ih := lod_le (g := g) hc e
    cases h : g e with
    | true =>
      rw [lod_t h]
      have : lod ch g e * ch ≤ 1000000000 * 100 := Nat.mul_le_mul ih hc
      omega
    | false => rw [lod_f h]; exact ih
theorem od_L {x : Int64} {v ch : Nat} (hx : x.toInt = (v : Int)) (hv : v ≤ 1000000000) (hc : ch ≤ 100) : (x * (nI ch).toInt64 / 100).toInt = ((v * ch / 100 : Nat) : Int) := by
  have hm : v * ch ≤ 1000000000 * 100 := Nat.mul_le_mul hv hc
  have e1 : (x * (nI ch).toInt64).toInt = ((v * ch : Nat) : Int) := by
    rw [Int64.toInt_mul, hx, Int32.toInt_toInt64, nI_toInt (by omega), ← Int.natCast_mul]
    generalize v * ch = q at *
    exact Int.bmod_eq_of_le (by omega) (by omega)
  rw [Int64.toInt_div, e1, show (100 : Int64).toInt = ((100 : Nat) : Int) by decide, ← Int.ofNat_tdiv]
  have := Nat.div_le_self (v * ch) 100
  generalize v * ch / 100 = q at *
  generalize v * ch = u at *
  exact Int.bmod_eq_of_le (by omega) (by omega)
theorem od_E {x : Int64} {v : Nat} (hx : x.toInt = (v : Int)) (hv : v ≤ 1000000000) : ((1000000000 : Int64) - x).toInt32 = nI (1000000000 - v) := by
  apply Int32.toInt_inj.mp
  have e1 : ((1000000000 : Int) - (v : Int)).bmod (2 ^ 64) = 1000000000 - (v : Int) := Int.bmod_eq_of_le (by omega) (by omega)
  rw [Int64.toInt_toInt32, Int64.toInt_sub, hx, show (1000000000 : Int64).toInt = 1000000000 by decide, nI_toInt (by omega), e1, Int.bmod_eq_of_le (by omega) (by omega)]
  omega
theorem od_M {v ch : Nat} (hv : v ≤ 1000000000) (hc : ch ≤ 100) : ((nI v).toInt64 * (nI ch).toInt64 / 100).toInt32 = nI (v * ch / 100) := by
  have hm : v * ch ≤ 1000000000 * 100 := Nat.mul_le_mul hv hc
  apply Int32.toInt_inj.mp
  rw [Int64.toInt_toInt32, od_L (v := v) (by rw [Int32.toInt_toInt64, nI_toInt (by omega)]) hv hc, nI_toInt (by omega)]
  exact Int.bmod_eq_of_le (by omega) (by omega)
theorem od_I {v : Nat} (hv : v ≤ 1000000000) : (1000000000 : Int32) - nI v = nI (1000000000 - v) := nI_sub (a := 1000000000) (by omega) hv
def odG (C k : Nat) (t : Mt) (h : Nat → Nat) : Nat → Nat → Int32 := fun p ch => nI (1000000000 - lod ch (gB k t 100000 (h p)) C)
theorem c_odds {m : xM} {C S W w : Nat} {A B Y h : Nat → Nat} {z y : Int32} (hI : gI tS tR m) (hT : xT m C S A B Y) (hw : m.1 89 0 = nI w) (hw2 : w < 65536) (hW : m.1 3 2 = nI W) (hW4 : W ≤ 4) (hh : ∀ p, p < W → m.1 92 p = nI (h p) ∧ h p < C) : fC 146 [.ref 0, .int z, .int y] m (fun rv m' => ∃ v, rv = some (.int v) ∧ ftV W 101 (odG C (chp A B S w C) (wyM C S A B Y w) h) z y v) := by
  refine fC_of (by decide) (fun d n P H => ?_)
  have hC8 : C ≤ 8 := hT.2.2.1
  have hS12 : S ≤ 12 := hT.2.2.2.1
  have hSt := xT_st hT
  have hr : rS m := hI.2
  have neg : ∀ n, ¬ ((∃ a, a < W ∧ z = nI a) ∧ ∃ b, b < 101 ∧ y = nI b) → xF 146 (xw d) P n 18 [(0, .ref 0), (1, .int z), (2, .int y)] [] m → ∃ rv m', P rv m' ∧ ∃ v, rv = some (.int v) ∧ ftV W 101 (odG C (chp A B S w C) (wyM C S A B Y w) h) z y v := by
    intro n hn H
    replace H := f_iconst H k146_18 (v := -1) (by decide)
    replace H := f_iret H k146_19
    exact ⟨_, _, H, _, rfl, Or.inr ⟨hn, rfl⟩⟩
  replace H := f_aload_n H k146_0 rfl
  replace H := f_iload_n H k146_1 rfl
  obtain ⟨rv, m3, ⟨ho1, e3⟩, h9_2⟩ := f_inv H k146_2 (by decide +kernel) (as := [.int _]) (b := 0) (r := []) (by rfl) (c_isWalker hr hW (by omega))
  replace H := h9_2
  rw [← e3] at H
  clear e3
  rcases ho1 with ⟨a, ha, hza, rfl⟩ | ⟨h0, rfl⟩
  · subst hza
    replace H := f_if_eq_f H k146_5 (by decide)
    replace H := f_iload_n H k146_8 rfl
    have Hbr := f_if_lt H k146_9 (t := 18) (by decide)
    clear H
    rcases Hbr with ⟨c1, H⟩ | ⟨c1, H⟩
    · rw [Int32.lt_iff_toInt_lt, show (0 : Int32).toInt = 0 by decide] at c1
      exact neg _ (fun q => by obtain ⟨b, hb, e⟩ := q.2; rw [e, nI_toInt (by omega)] at c1; omega) H
    · rw [Int32.lt_iff_toInt_lt, show (0 : Int32).toInt = 0 by decide] at c1
      replace H := f_iload_n H k146_12 rfl
      replace H := f_bipush H k146_13 (v := 100) (by decide)
      have Hbr := f_icmp_le H k146_15 (t := 20) (by decide)
      clear H
      rcases Hbr with ⟨c2, H⟩ | ⟨c2, H⟩
      · rw [Int32.le_iff_toInt_le, show (100 : Int32).toInt = 100 by decide] at c2
        obtain ⟨b, hb, rfl⟩ := i_rng (x := y) (L := 100) (by omega) (by omega) (by decide)
        replace H := f_aload_n H k146_20 rfl
        replace H := f_gr H k146_21 (ci := 11) (f := 7) (x := 83) (by decide +kernel) (by decide) (hr 0 7 83 rfl)
        replace H := f_aload_n H k146_24 rfl
        replace H := f_gr H k146_25 (ci := 11) (f := 9) (x := 89) (by decide +kernel) (by decide) (hr 0 9 89 rfl)
        obtain ⟨rv, m5, ⟨⟨rfl, f1, h3, hX⟩, hc⟩, h9_28⟩ := f_inv H k146_28 (by decide +kernel) (as := [.ref 89]) (b := 83) (r := []) (by rfl) (fC_two (c_lookAt hr hT hw hw2) (fC_vC q171 hI trivial ⟨aR_a 83, aR_a 89, trivial⟩ gF_nil))
        replace H := h9_28
        have hr : rS m5 := hc.1.2
        have hc0 : m5.1 3 0 = nI C := by rw [f1 3 0 (by omega) (by omega) (by omega)]; exact hT.1
        have hh5 : m5.1 92 a = nI (h a) := by rw [f1 92 a (by omega) (by omega) (by omega)]; exact (hh a ha).1
        have hhC := (hh a ha).2
        clear hc
        obtain ⟨g, hg⟩ : ∃ g : Nat → Bool, g = gB (chp A B S w C) (wyM C S A B Y w) 100000 (h a) := ⟨_, rfl⟩
        have lp : ∀ n e x, e ≤ C → x.toInt = ((lod b g e : Nat) : Int) → xF 146 (xw d) P n 38 [(5, .int (nI e)), (3, .long x), (0, .ref 0), (1, .int (nI a)), (2, .int (nI b))] [] m5 → ∃ rv m', P rv m' ∧ ∃ v, rv = some (.int v) ∧ ftV W 101 (odG C (chp A B S w C) (wyM C S A B Y w) h) (nI a) (nI b) v := by
          intro n
          induction n with
          | zero => exact fun e x _ _ H => (xF_0 H).elim
          | succ n ih =>
            intro e x he hx H
            have hle := lod_le (g := g) hb e
            replace H := f1_iload H k146_38 rfl
            replace H := f_aload_n H k146_40 rfl
            replace H := f_gr H k146_41 (ci := 11) (f := 1) (x := 3) (by decide +kernel) (by decide) (hr 0 1 3 rfl)
            replace H := f_gi H k146_44 (ci := 5) (f := 0) (by decide +kernel) (by decide)
            rw [hc0] at H
            have Hbr := f_icmp_ge H k146_47 (t := 82) (by decide)
            clear H
            rcases Hbr with ⟨c0, H⟩ | ⟨c0, H⟩
            · rw [nxle (by omega) (by omega)] at c0
              have ee : e = C := by omega
              replace H := f_ldc2 H k146_82 (v := 1000000000) (by decide +kernel)
              replace H := f_lload_n H k146_85 rfl
              replace H := f_lsub H k146_86
              replace H := f_l2i H k146_87
              rw [od_E hx hle] at H
              replace H := f_iret H k146_88
              refine ⟨_, _, H, _, rfl, Or.inl ⟨a, b, ha, by omega, rfl, rfl, ?_⟩⟩
              rw [ee, hg]
              rfl
            · rw [nxle (by omega) (by omega)] at c0
              replace H := f_aload_n H k146_50 rfl
              replace H := f_gr H k146_51 (ci := 11) (f := 7) (x := 83) (by decide +kernel) (by decide) (hr 0 7 83 rfl)
              replace H := f_aload_n H k146_54 rfl
              replace H := f_gr H k146_55 (ci := 11) (f := 9) (x := 89) (by decide +kernel) (by decide) (hr 0 9 89 rfl)
              replace H := f_iload_n H k146_58 rfl
              replace H := f_iload H k146_59 rfl
              obtain ⟨rv, m6, ⟨hcan, e3⟩, h9_61⟩ := f_inv H k146_61 (by decide +kernel) (as := [.ref 89, .int _, .int _]) (b := 83) (r := []) (by rfl) (c_xcan hr hC8 h3 hX (fwO_le (wsX_le hSt) C) (by omega) hh5 hhC (by omega))
              replace H := h9_61
              rw [← e3] at H
              clear e3
              have hq := wy_R (w := w) hC8 hSt (h a) e
              rcases hcan with ⟨g1, rfl⟩ | ⟨g1, rfl⟩
              · have g2 : g e = true := by rw [hg]; exact gB_t ⟨g1.1, hq.mp g1.2⟩
                replace H := f_if_eq_f H k146_64 (by decide)
                replace H := f_lload_n H k146_67 rfl
                replace H := f_iload_n H k146_68 rfl
                replace H := f_i2l H k146_69
                replace H := f_lmul H k146_70
                replace H := f_ldc2 H k146_71 (v := 100) (by decide +kernel)
                replace H := f_ldiv H k146_74
                replace H := f_lstore_n H k146_75 (l2 := [(3, .long (x * (nI b).toInt64 / 100)), (5, .int (nI e)), (0, .ref 0), (1, .int (nI a)), (2, .int (nI b))]) rfl
                replace H := f_iinc H k146_76 rfl (l2 := [(5, .int (nI e + 1)), (3, .long (x * (nI b).toInt64 / 100)), (0, .ref 0), (1, .int (nI a)), (2, .int (nI b))]) rfl
                replace H := f_goto H k146_79 (t := 38) (by decide)
                rw [nI_s] at H
                exact ih (e + 1) _ (by omega) (by rw [lod_t g2]; exact od_L hx hle hb) H
              · have g2 : g e = false := by rw [hg]; exact gB_f (fun q => g1 ⟨q.1, hq.mpr q.2⟩)
                replace H := f_if_eq_t H k146_64 rfl (t := 76) (by decide)
                replace H := f_iinc H k146_76 rfl (l2 := [(5, .int (nI e + 1)), (3, .long x), (0, .ref 0), (1, .int (nI a)), (2, .int (nI b))]) rfl
                replace H := f_goto H k146_79 (t := 38) (by decide)
                rw [nI_s] at H
                exact ih (e + 1) _ (by omega) (by rw [lod_f g2]; exact hx) H
        replace H := f_ldc2 H k146_31 (v := 1000000000) (by decide +kernel)
        replace H := f_lstore_n H k146_34 (l2 := [(3, .long 1000000000), (0, .ref 0), (1, .int (nI a)), (2, .int (nI b))]) rfl
        replace H := f_iconst H k146_35 (v := 0) (by decide)
        replace H := f_istore H k146_36 (l2 := [(5, .int 0), (3, .long 1000000000), (0, .ref 0), (1, .int (nI a)), (2, .int (nI b))]) rfl
        exact lp _ 0 _ (Nat.zero_le _) (show (1000000000 : Int64).toInt = ((1000000000 : Nat) : Int) by decide) H
      · rw [Int32.le_iff_toInt_le, show (100 : Int32).toInt = 100 by decide] at c2
        exact neg _ (fun q => by obtain ⟨b, hb, e⟩ := q.2; rw [e, nI_toInt (by omega)] at c2; omega) H
  · replace H := f_if_eq_t H k146_5 rfl (t := 18) (by decide)
    exact neg _ (fun q => by obtain ⟨a, ha, e⟩ := q.1; exact h0 a ha e) H
set_option maxHeartbeats 2000000 in
theorem c_modds {m : xM} {C S W w : Nat} {A B Y h : Nat → Nat} {z y : Int32} (hI : gI tS tR m) (hj : jM m) (hT : mT m C S A B Y) (hw : m.1 326 24 = nI w) (hw2 : w < 65536) (hW : m.1 314 27 = nI W) (hW4 : W ≤ 4) (hh : ∀ p, p < W → m.1 326 (16 + 2 * p) = nI (h p) ∧ h p < C) : fC 249 [.ref 314, .int z, .int y] m (fun rv m' => ∃ v, rv = some (.int v) ∧ ftV W 101 (odG C (chp A B S w C) (wyM C S A B Y w) h) z y v) := by
  refine fC_of (by decide) (fun d n P H => ?_)
  have c24 : (24 : Int32).toNatClampNeg = 24 := by decide
  replace H := f_aload_n H k249_0 rfl
  replace H := f_iconst H k249_1 (v := 0) (by decide)
  replace H := f_put_i H k249_2 (ci := 12) (f := 0) (by decide +kernel) (by decide)
  have hI1 : gI tS tR (mI m 314 0 0) := gI_m2 hI (by decide +kernel)
  have hj1 : jM (mI m 314 0 0) := jM_c (by decide) hj
  have hT1 : mT (mI m 314 0 0) C S A B Y := mT_f hT (fun i => ⟨⟨mI_ne (by omega), mI_ne (by omega)⟩, mI_ne (by omega)⟩)
  have hw1 : (mI m 314 0 0).1 326 24 = nI w := by rw [mI_ne (by omega)]; exact hw
  have hW1 : (mI m 314 0 0).1 314 27 = nI W := by rw [mI_ne (by omega)]; exact hW
  have hh1 : ∀ p, p < W → (mI m 314 0 0).1 326 (16 + 2 * p) = nI (h p) ∧ h p < C := fun p hp => by rw [mI_ne (by omega)]; exact hh p hp
  clear hI hj hT hw hW hh
  generalize mI m 314 0 0 = m at *
  have hr : rS m := hI1.2
  have hC8 : C ≤ 8 := hT1.2.2.1
  have hSt := mT_st hT1
  have neg : ∀ n, ¬ ((∃ a, a < W ∧ z = nI a) ∧ ∃ b, b < 101 ∧ y = nI b) → xF 249 (xw d) P n 25 [(0, .ref 314), (1, .int z), (2, .int y)] [] m → ∃ rv m', P rv m' ∧ ∃ v, rv = some (.int v) ∧ ftV W 101 (odG C (chp A B S w C) (wyM C S A B Y w) h) z y v := by
    intro n hn H
    replace H := f_iconst H k249_25 (v := -1) (by decide)
    replace H := f_iret H k249_26
    exact ⟨_, _, H, _, rfl, Or.inr ⟨hn, rfl⟩⟩
  replace H := f_aload_n H k249_5 rfl
  replace H := f_iload_n H k249_6 rfl
  obtain ⟨rv, m3, ⟨ho1, e3⟩, h9_7⟩ := f_inv H k249_7 (by decide +kernel) (as := [.int _]) (b := 314) (r := []) (by rfl) (c_misWalker hr hW1 (by omega))
  replace H := h9_7
  rw [← e3] at H
  clear e3
  rcases ho1 with ⟨a, ha, hza, rfl⟩ | ⟨h0, rfl⟩
  · subst hza
    replace H := f_if_eq_f H k249_10 (by decide)
    replace H := f_iload_n H k249_13 rfl
    replace H := f_i2l H k249_14
    replace H := f_lconst H k249_15 (v := 0) (by decide)
    replace H := f_ldc2 H k249_16 (v := 100) (by decide +kernel)
    obtain ⟨rv, m3, ⟨ho, e3⟩, h9_19⟩ := f_ins H k249_19 (by decide +kernel) (as := [.long _, .long _, .long _]) (r := []) (by rfl) (c_isInK (v := y) (l := 0) (mo := 100) (by decide) (by decide))
    replace H := h9_19
    rw [← e3] at H
    clear e3
    rcases ho with ⟨o1, o2, rfl⟩ | ⟨o1, rfl⟩
    · rw [Int32.le_iff_toInt_le] at o1 o2
      rw [show (0 : Int32).toInt = 0 by decide] at o1
      rw [show (100 : Int32).toInt = 100 by decide] at o2
      obtain ⟨b, hb, rfl⟩ := i_rng (x := y) (L := 100) (by omega) (by omega) (by decide)
      replace H := f_if_ne_t H k249_22 (by decide) (t := 27) (by decide)
      replace H := f_aload_n H k249_27 rfl
      replace H := f_aload_n H k249_28 rfl
      replace H := f_gr H k249_29 (ci := 12) (f := 32) (x := 326) (by decide +kernel) (by decide) (hr 314 32 326 rfl)
      replace H := f_bipush H k249_32 (v := 24) (by decide)
      have Hob := f_iald H k249_34 (c := 208) (by decide)
      clear H
      obtain ⟨hb34, H⟩ := Hob
      rw [c24, hw1] at H
      obtain ⟨rv, m6, ⟨⟨rfl, f1, hY⟩, hc⟩, h9_35⟩ := f_inv H k249_35 (by decide +kernel) (as := [.int _]) (b := 314) (r := []) (by rfl) (fC_two (c_laysYards hr hT1 hw2) (fC_vC r52 hI1 hj1 ⟨aR_a 314, aI_a _, trivial⟩ gF_nil))
      replace H := h9_35
      have hI6 := hc.1
      have hj6 : jM m6 := jM_st (c := (0, [], [], [], r52c.2.2.2.2)) (by decide) m m6 hc.2.1 hj1
      clear hc
      have hT6 : mT m6 C S A B Y := mT_f hT1 (fun i => ⟨⟨f1.2 _ _ (by omega), f1.2 _ _ (by omega)⟩, f1.2 _ _ (by omega)⟩)
      have hw6 : m6.1 326 24 = nI w := by rw [f1.2 _ _ (by omega)]; exact hw1
      have hh6 : m6.1 326 (16 + 2 * a) = nI (h a) := by rw [f1.2 _ _ (by omega)]; exact (hh1 a ha).1
      have hhC := (hh1 a ha).2
      have hle : mle 100000 (wyM C S A B Y w) := fwO_le (wsM_le hSt) C
      obtain ⟨g, hg⟩ : ∃ g : Nat → Bool, g = gB (chp A B S w C) (wyM C S A B Y w) 100000 (h a) := ⟨_, rfl⟩
      have lp : ∀ n e m2, e ≤ C → gI tS tR m2 → jM m2 → fr63 m6 m2 → xF 249 (xw d) P n 45 [(4, .int (nI e)), (3, .int (nI (lod b g e))), (0, .ref 314), (1, .int (nI a)), (2, .int (nI b))] [] m2 → ∃ rv m', P rv m' ∧ ∃ v, rv = some (.int v) ∧ ftV W 101 (odG C (chp A B S w C) (wyM C S A B Y w) h) (nI a) (nI b) v := by
        intro n
        induction n with
        | zero => exact fun e m2 _ _ _ _ H => (xF_0 H).elim
        | succ n ih =>
          intro e m2 he hI2 hj2 hf H
          have hr : rS m2 := hI2.2
          have hT2 := mT_63 hT6 hf
          have hY2 := mY_63 hY hf
          have hw3 : m2.1 326 24 = nI w := by rw [hf 326 24 (by omega)]; exact hw6
          have hh2 : m2.1 326 (16 + 2 * a) = nI (h a) := by rw [hf 326 _ (by omega)]; exact hh6
          have hlo := lod_le (g := g) hb e
          replace H := f1_iload H k249_45 rfl
          replace H := f_aload_n H k249_47 rfl
          replace H := f_gi H k249_48 (ci := 12) (f := 25) (by decide +kernel) (by decide)
          rw [hT2.1] at H
          have Hbr := f_icmp_ge H k249_51 (t := 88) (by decide)
          clear H
          rcases Hbr with ⟨c0, H⟩ | ⟨c0, H⟩
          · rw [nxle (by omega) (by omega)] at c0
            have ee : e = C := by omega
            replace H := f_ldc_w H k249_88 (v := 1000000000) (by decide +kernel)
            replace H := f_iload_n H k249_91 rfl
            replace H := f_isub H k249_92
            rw [od_I hlo] at H
            replace H := f_iret H k249_93
            refine ⟨_, _, H, _, rfl, Or.inl ⟨a, b, ha, by omega, rfl, rfl, ?_⟩⟩
            rw [ee, hg]
            rfl
          · rw [nxle (by omega) (by omega)] at c0
            replace H := f_aload_n H k249_54 rfl
            replace H := f_aload_n H k249_55 rfl
            replace H := f_gr H k249_56 (ci := 12) (f := 32) (x := 326) (by decide +kernel) (by decide) (hr 314 32 326 rfl)
            replace H := f_iload_n H k249_59 rfl
            replace H := f_iload H k249_60 rfl
            obtain ⟨rv, m3, ⟨⟨v9, rfl, hv⟩, hc⟩, h9_62⟩ := f_inv H k249_62 (by decide +kernel) (as := [.ref 326, .int _, .int _]) (b := 314) (r := []) (by rfl) (fC_two (c_draws hr hT2 hw3 hw2 hY2 hle (by omega) hh2 hhC (by omega)) (fC_vC r63 hI2 hj2 ⟨aR_a 314, aR_a 326, aI_n (L := 3) (by omega) (by omega), aI_n (L := 7) (by omega) (by omega), trivial⟩ gF_nil))
            replace H := h9_62
            have hI3 := hc.1
            have hj3 := r63_j hj2 hc
            have hf3 := fr63_t hf (r63_f hc)
            clear hc
            replace H := f_ldc_w H k249_65 (v := -1000000) (by decide +kernel)
            have Hbr := f_icmp_eq H k249_68 (t := 82) (by decide)
            clear H
            rcases Hbr with ⟨c1, H⟩ | ⟨c1, H⟩
            · have g2 : g e = false := by
                rw [hg]
                rcases hv with ⟨-, q⟩ | ⟨q, -⟩
                · exact gB_f q
                · exact absurd c1 q
              replace H := f_iinc H k249_82 rfl (l2 := [(4, .int (nI e + 1)), (3, .int (nI (lod b g e))), (0, .ref 314), (1, .int (nI a)), (2, .int (nI b))]) rfl
              replace H := f_goto H k249_85 (t := 45) (by decide)
              rw [nI_s, ← lod_f (ch := b) g2] at H
              exact ih (e + 1) m3 (by omega) hI3 hj3 hf3 H
            · have g2 : g e = true := by
                rw [hg]
                rcases hv with ⟨q, -⟩ | ⟨-, q⟩
                · exact absurd q c1
                · exact gB_t q
              replace H := f_iload_n H k249_71 rfl
              replace H := f_i2l H k249_72
              replace H := f_iload_n H k249_73 rfl
              replace H := f_i2l H k249_74
              replace H := f_lmul H k249_75
              replace H := f_ldc2 H k249_76 (v := 100) (by decide +kernel)
              replace H := f_ldiv H k249_79
              replace H := f_l2i H k249_80
              rw [od_M hlo hb, ← lod_t (ch := b) g2] at H
              replace H := f_istore_n H k249_81 (l2 := [(3, .int (nI (lod b g (e + 1)))), (4, .int (nI e)), (0, .ref 314), (1, .int (nI a)), (2, .int (nI b))]) rfl
              replace H := f_iinc H k249_82 rfl (l2 := [(4, .int (nI e + 1)), (3, .int (nI (lod b g (e + 1)))), (0, .ref 314), (1, .int (nI a)), (2, .int (nI b))]) rfl
              replace H := f_goto H k249_85 (t := 45) (by decide)
              rw [nI_s] at H
              exact ih (e + 1) m3 (by omega) hI3 hj3 hf3 H
      replace H := f_ldc_w H k249_38 (v := 1000000000) (by decide +kernel)
      replace H := f_istore_n H k249_41 (l2 := [(3, .int 1000000000), (0, .ref 314), (1, .int (nI a)), (2, .int (nI b))]) rfl
      replace H := f_iconst H k249_42 (v := 0) (by decide)
      replace H := f_istore H k249_43 (l2 := [(4, .int 0), (3, .int 1000000000), (0, .ref 314), (1, .int (nI a)), (2, .int (nI b))]) rfl
      exact lp _ 0 m6 (Nat.zero_le _) hI6 hj6 (fun _ _ _ => rfl) H
    · replace H := f_if_ne_f H k249_22 rfl
      rw [Int32.lt_iff_toInt_lt, Int32.lt_iff_toInt_lt, show (0 : Int32).toInt = 0 by decide, show (100 : Int32).toInt = 100 by decide] at o1
      exact neg _ (fun q => by obtain ⟨b, hb, e⟩ := q.2; rw [e, nI_toInt (by omega)] at o1; omega) H
  · replace H := f_if_eq_t H k249_10 rfl (t := 25) (by decide)
    exact neg _ (fun q => by obtain ⟨a, ha, e⟩ := q.1; exact h0 a ha e) H
