theorem k112_0 : lkc 0 (kcode 112) = some (.aload_n 0) := by decide +kernel
theorem k112_1 : lkc 1 (kcode 112) = some (.getfield 19) := by decide +kernel
theorem k112_4 : lkc 4 (kcode 112) = some (.aload_n 0) := by decide +kernel
theorem k112_5 : lkc 5 (kcode 112) = some (.getfield 75) := by decide +kernel
theorem k112_8 : lkc 8 (kcode 112) = some (.getfield 193) := by decide +kernel
theorem k112_11 : lkc 11 (kcode 112) = some (.invokevirtual 236) := by decide +kernel
theorem k112_14 : lkc 14 (kcode 112) = some (.ireturn) := by decide +kernel
theorem k130_0 : lkc 0 (kcode 130) = some (.aload_n 0) := by decide +kernel
theorem k130_1 : lkc 1 (kcode 130) = some (.iload_n 1) := by decide +kernel
theorem k130_2 : lkc 2 (kcode 130) = some (.invokevirtual 159) := by decide +kernel
theorem k130_5 : lkc 5 (kcode 130) = some (.ifCond .eq 11) := by decide +kernel
theorem k130_8 : lkc 8 (kcode 130) = some (.aload_n 0) := by decide +kernel
theorem k130_9 : lkc 9 (kcode 130) = some (.iload_n 2) := by decide +kernel
theorem k130_10 : lkc 10 (kcode 130) = some (.invokevirtual 159) := by decide +kernel
theorem k130_13 : lkc 13 (kcode 130) = some (.ifCond .ne 5) := by decide +kernel
theorem k130_16 : lkc 16 (kcode 130) = some (.iconst (-1)) := by decide +kernel
theorem k130_17 : lkc 17 (kcode 130) = some (.ireturn) := by decide +kernel
theorem k130_18 : lkc 18 (kcode 130) = some (.aload_n 0) := by decide +kernel
theorem k130_19 : lkc 19 (kcode 130) = some (.getfield 52) := by decide +kernel
theorem k130_22 : lkc 22 (kcode 130) = some (.aload_n 0) := by decide +kernel
theorem k130_23 : lkc 23 (kcode 130) = some (.getfield 19) := by decide +kernel
theorem k130_26 : lkc 26 (kcode 130) = some (.aload_n 0) := by decide +kernel
theorem k130_27 : lkc 27 (kcode 130) = some (.invokevirtual 170) := by decide +kernel
theorem k130_30 : lkc 30 (kcode 130) = some (.invokevirtual 312) := by decide +kernel
theorem k130_33 : lkc 33 (kcode 130) = some (.aload_n 0) := by decide +kernel
theorem k130_34 : lkc 34 (kcode 130) = some (.getfield 52) := by decide +kernel
theorem k130_37 : lkc 37 (kcode 130) = some (.iload_n 1) := by decide +kernel
theorem k130_38 : lkc 38 (kcode 130) = some (.iload_n 2) := by decide +kernel
theorem k130_39 : lkc 39 (kcode 130) = some (.invokevirtual 316) := by decide +kernel
theorem k130_42 : lkc 42 (kcode 130) = some (.ireturn) := by decide +kernel
theorem k133_0 : lkc 0 (kcode 133) = some (.aload_n 0) := by decide +kernel
theorem k133_1 : lkc 1 (kcode 133) = some (.iload_n 1) := by decide +kernel
theorem k133_2 : lkc 2 (kcode 133) = some (.invokevirtual 159) := by decide +kernel
theorem k133_5 : lkc 5 (kcode 133) = some (.ifCond .eq 13) := by decide +kernel
theorem k133_8 : lkc 8 (kcode 133) = some (.iload_n 2) := by decide +kernel
theorem k133_9 : lkc 9 (kcode 133) = some (.ifCond .lt 9) := by decide +kernel
theorem k133_12 : lkc 12 (kcode 133) = some (.iload_n 2) := by decide +kernel
theorem k133_13 : lkc 13 (kcode 133) = some (.bipush 99) := by decide +kernel
theorem k133_15 : lkc 15 (kcode 133) = some (.if_icmp .le 5) := by decide +kernel
theorem k133_18 : lkc 18 (kcode 133) = some (.iconst (-1)) := by decide +kernel
theorem k133_19 : lkc 19 (kcode 133) = some (.ireturn) := by decide +kernel
theorem k133_20 : lkc 20 (kcode 133) = some (.aload_n 0) := by decide +kernel
theorem k133_21 : lkc 21 (kcode 133) = some (.getfield 52) := by decide +kernel
theorem k133_24 : lkc 24 (kcode 133) = some (.aload_n 0) := by decide +kernel
theorem k133_25 : lkc 25 (kcode 133) = some (.getfield 19) := by decide +kernel
theorem k133_28 : lkc 28 (kcode 133) = some (.aload_n 0) := by decide +kernel
theorem k133_29 : lkc 29 (kcode 133) = some (.invokevirtual 170) := by decide +kernel
theorem k133_32 : lkc 32 (kcode 133) = some (.invokevirtual 312) := by decide +kernel
theorem k133_35 : lkc 35 (kcode 133) = some (.iconst 0) := by decide +kernel
theorem k133_36 : lkc 36 (kcode 133) = some (.istore_n 3) := by decide +kernel
theorem k133_37 : lkc 37 (kcode 133) = some (.iconst 0) := by decide +kernel
theorem k133_38 : lkc 38 (kcode 133) = some (.istore 4) := by decide +kernel
theorem k133_40 : lkc 40 (kcode 133) = some (.iload 4) := by decide +kernel
theorem k133_42 : lkc 42 (kcode 133) = some (.aload_n 0) := by decide +kernel
theorem k133_43 : lkc 43 (kcode 133) = some (.getfield 19) := by decide +kernel
theorem k133_46 : lkc 46 (kcode 133) = some (.getfield 216) := by decide +kernel
theorem k133_49 : lkc 49 (kcode 133) = some (.if_icmp .ge 40) := by decide +kernel
theorem k133_52 : lkc 52 (kcode 133) = some (.aload_n 0) := by decide +kernel
theorem k133_53 : lkc 53 (kcode 133) = some (.getfield 52) := by decide +kernel
theorem k133_56 : lkc 56 (kcode 133) = some (.iload_n 1) := by decide +kernel
theorem k133_57 : lkc 57 (kcode 133) = some (.iload 4) := by decide +kernel
theorem k133_59 : lkc 59 (kcode 133) = some (.invokevirtual 316) := by decide +kernel
theorem k133_62 : lkc 62 (kcode 133) = some (.istore 5) := by decide +kernel
theorem k133_64 : lkc 64 (kcode 133) = some (.iload 5) := by decide +kernel
theorem k133_66 : lkc 66 (kcode 133) = some (.iconst (-1)) := by decide +kernel
theorem k133_67 : lkc 67 (kcode 133) = some (.if_icmp .eq 16) := by decide +kernel
theorem k133_70 : lkc 70 (kcode 133) = some (.iload 5) := by decide +kernel
theorem k133_72 : lkc 72 (kcode 133) = some (.iload_n 2) := by decide +kernel
theorem k133_73 : lkc 73 (kcode 133) = some (.if_icmp .gt 10) := by decide +kernel
theorem k133_76 : lkc 76 (kcode 133) = some (.iload_n 3) := by decide +kernel
theorem k133_77 : lkc 77 (kcode 133) = some (.iconst 1) := by decide +kernel
theorem k133_78 : lkc 78 (kcode 133) = some (.iload 4) := by decide +kernel
theorem k133_80 : lkc 80 (kcode 133) = some (.ishl) := by decide +kernel
theorem k133_81 : lkc 81 (kcode 133) = some (.ior) := by decide +kernel
theorem k133_82 : lkc 82 (kcode 133) = some (.istore_n 3) := by decide +kernel
theorem k133_83 : lkc 83 (kcode 133) = some (.iinc 4 1) := by decide +kernel
theorem k133_86 : lkc 86 (kcode 133) = some (.goto (-46)) := by decide +kernel
theorem k133_89 : lkc 89 (kcode 133) = some (.iload_n 3) := by decide +kernel
theorem k133_90 : lkc 90 (kcode 133) = some (.ireturn) := by decide +kernel
theorem k226_0 : lkc 0 (kcode 226) = some (.aload_n 0) := by decide +kernel
theorem k226_1 : lkc 1 (kcode 226) = some (.iconst 0) := by decide +kernel
theorem k226_2 : lkc 2 (kcode 226) = some (.putfield 90) := by decide +kernel
theorem k226_5 : lkc 5 (kcode 226) = some (.aload_n 0) := by decide +kernel
theorem k226_6 : lkc 6 (kcode 226) = some (.iload_n 1) := by decide +kernel
theorem k226_7 : lkc 7 (kcode 226) = some (.invokevirtual 354) := by decide +kernel
theorem k226_10 : lkc 10 (kcode 226) = some (.ifCond .eq 11) := by decide +kernel
theorem k226_13 : lkc 13 (kcode 226) = some (.aload_n 0) := by decide +kernel
theorem k226_14 : lkc 14 (kcode 226) = some (.iload_n 2) := by decide +kernel
theorem k226_15 : lkc 15 (kcode 226) = some (.invokevirtual 354) := by decide +kernel
theorem k226_18 : lkc 18 (kcode 226) = some (.ifCond .ne 5) := by decide +kernel
theorem k226_21 : lkc 21 (kcode 226) = some (.iconst (-1)) := by decide +kernel
theorem k226_22 : lkc 22 (kcode 226) = some (.ireturn) := by decide +kernel
theorem k226_23 : lkc 23 (kcode 226) = some (.aload_n 0) := by decide +kernel
theorem k226_24 : lkc 24 (kcode 226) = some (.aload_n 0) := by decide +kernel
theorem k226_25 : lkc 25 (kcode 226) = some (.getfield 58) := by decide +kernel
theorem k226_28 : lkc 28 (kcode 226) = some (.bipush 24) := by decide +kernel
theorem k226_30 : lkc 30 (kcode 226) = some (.iaload) := by decide +kernel
theorem k226_31 : lkc 31 (kcode 226) = some (.invokevirtual 341) := by decide +kernel
theorem k226_34 : lkc 34 (kcode 226) = some (.aload_n 0) := by decide +kernel
theorem k226_35 : lkc 35 (kcode 226) = some (.iload_n 1) := by decide +kernel
theorem k226_36 : lkc 36 (kcode 226) = some (.iload_n 2) := by decide +kernel
theorem k226_37 : lkc 37 (kcode 226) = some (.invokevirtual 322) := by decide +kernel
theorem k226_40 : lkc 40 (kcode 226) = some (.ifCond .eq 12) := by decide +kernel
theorem k226_43 : lkc 43 (kcode 226) = some (.aload_n 0) := by decide +kernel
theorem k226_44 : lkc 44 (kcode 226) = some (.iload_n 1) := by decide +kernel
theorem k226_45 : lkc 45 (kcode 226) = some (.iload_n 2) := by decide +kernel
theorem k226_46 : lkc 46 (kcode 226) = some (.invokevirtual 304) := by decide +kernel
theorem k226_49 : lkc 49 (kcode 226) = some (.goto 4) := by decide +kernel
theorem k226_52 : lkc 52 (kcode 226) = some (.iconst (-1)) := by decide +kernel
theorem k226_53 : lkc 53 (kcode 226) = some (.ireturn) := by decide +kernel
theorem k260_0 : lkc 0 (kcode 260) = some (.aload_n 0) := by decide +kernel
theorem k260_1 : lkc 1 (kcode 260) = some (.iconst 0) := by decide +kernel
theorem k260_2 : lkc 2 (kcode 260) = some (.putfield 90) := by decide +kernel
theorem k260_5 : lkc 5 (kcode 260) = some (.aload_n 0) := by decide +kernel
theorem k260_6 : lkc 6 (kcode 260) = some (.iload_n 1) := by decide +kernel
theorem k260_7 : lkc 7 (kcode 260) = some (.invokevirtual 354) := by decide +kernel
theorem k260_10 : lkc 10 (kcode 260) = some (.ifCond .eq 15) := by decide +kernel
theorem k260_13 : lkc 13 (kcode 260) = some (.iload_n 2) := by decide +kernel
theorem k260_14 : lkc 14 (kcode 260) = some (.i2l) := by decide +kernel
theorem k260_15 : lkc 15 (kcode 260) = some (.lconst 0) := by decide +kernel
theorem k260_16 : lkc 16 (kcode 260) = some (.ldc2_w 483) := by decide +kernel
theorem k260_19 : lkc 19 (kcode 260) = some (.invokestatic 211) := by decide +kernel
theorem k260_22 : lkc 22 (kcode 260) = some (.ifCond .ne 5) := by decide +kernel
theorem k260_25 : lkc 25 (kcode 260) = some (.iconst (-1)) := by decide +kernel
theorem k260_26 : lkc 26 (kcode 260) = some (.ireturn) := by decide +kernel
theorem k260_27 : lkc 27 (kcode 260) = some (.aload_n 0) := by decide +kernel
theorem k260_28 : lkc 28 (kcode 260) = some (.aload_n 0) := by decide +kernel
theorem k260_29 : lkc 29 (kcode 260) = some (.getfield 58) := by decide +kernel
theorem k260_32 : lkc 32 (kcode 260) = some (.bipush 24) := by decide +kernel
theorem k260_34 : lkc 34 (kcode 260) = some (.iaload) := by decide +kernel
theorem k260_35 : lkc 35 (kcode 260) = some (.invokevirtual 341) := by decide +kernel
theorem k260_38 : lkc 38 (kcode 260) = some (.iconst 0) := by decide +kernel
theorem k260_39 : lkc 39 (kcode 260) = some (.istore_n 3) := by decide +kernel
theorem k260_40 : lkc 40 (kcode 260) = some (.iconst 0) := by decide +kernel
theorem k260_41 : lkc 41 (kcode 260) = some (.istore 4) := by decide +kernel
theorem k260_43 : lkc 43 (kcode 260) = some (.iload 4) := by decide +kernel
theorem k260_45 : lkc 45 (kcode 260) = some (.aload_n 0) := by decide +kernel
theorem k260_46 : lkc 46 (kcode 260) = some (.getfield 280) := by decide +kernel
theorem k260_49 : lkc 49 (kcode 260) = some (.if_icmp .ge 31) := by decide +kernel
theorem k260_52 : lkc 52 (kcode 260) = some (.iload_n 3) := by decide +kernel
theorem k260_53 : lkc 53 (kcode 260) = some (.aload_n 0) := by decide +kernel
theorem k260_54 : lkc 54 (kcode 260) = some (.iload_n 1) := by decide +kernel
theorem k260_55 : lkc 55 (kcode 260) = some (.iload 4) := by decide +kernel
theorem k260_57 : lkc 57 (kcode 260) = some (.invokevirtual 304) := by decide +kernel
theorem k260_60 : lkc 60 (kcode 260) = some (.iload_n 2) := by decide +kernel
theorem k260_61 : lkc 61 (kcode 260) = some (.if_icmp .gt 10) := by decide +kernel
theorem k260_64 : lkc 64 (kcode 260) = some (.iconst 1) := by decide +kernel
theorem k260_65 : lkc 65 (kcode 260) = some (.iload 4) := by decide +kernel
theorem k260_67 : lkc 67 (kcode 260) = some (.ishl) := by decide +kernel
theorem k260_68 : lkc 68 (kcode 260) = some (.goto 4) := by decide +kernel
theorem k260_71 : lkc 71 (kcode 260) = some (.iconst 0) := by decide +kernel
theorem k260_72 : lkc 72 (kcode 260) = some (.ior) := by decide +kernel
theorem k260_73 : lkc 73 (kcode 260) = some (.istore_n 3) := by decide +kernel
theorem k260_74 : lkc 74 (kcode 260) = some (.iinc 4 1) := by decide +kernel
theorem k260_77 : lkc 77 (kcode 260) = some (.goto (-34)) := by decide +kernel
theorem k260_80 : lkc 80 (kcode 260) = some (.iload_n 3) := by decide +kernel
theorem k260_81 : lkc 81 (kcode 260) = some (.ireturn) := by decide +kernel
/-! forward: how far, and what lies around, both sides -/
def ftV (C D : Nat) (G : Nat → Nat → Int32) (z y v : Int32) : Prop := (∃ a b, a < C ∧ b < D ∧ z = nI a ∧ y = nI b ∧ v = G a b) ∨ (¬ ((∃ a, a < C ∧ z = nI a) ∧ ∃ b, b < D ∧ y = nI b) ∧ v = -1)
theorem ftV_1 {C D : Nat} {G : Nat → Nat → Int32} {z y v u : Int32} (hC : C ≤ 8) (hD : D ≤ 1000) (h : ftV C D G z y v) (g : ftV C D G z y u) : v = u := by
  rcases h with ⟨a, b, h1, h2, h3, h4, h5⟩ | ⟨h1, h2⟩
  · rcases g with ⟨a', b', g1, g2, g3, g4, g5⟩ | ⟨g1, g2⟩
    · have ea : a = a' := (nI_inj (by omega) (by omega)).mp (h3.symm.trans g3)
      have eb : b = b' := (nI_inj (by omega) (by omega)).mp (h4.symm.trans g4)
      subst ea eb
      exact h5.trans g5.symm
    · exact absurd ⟨⟨a, h1, h3⟩, b, h2, h4⟩ g1
  · rcases g with ⟨a', b', g1, g2, g3, g4, g5⟩ | ⟨g1, g2⟩
    · exact absurd ⟨⟨a', g1, g3⟩, b', g2, g4⟩ h1
    · exact h2.trans g2.symm
/-- bits by a test -/
def aro (q : Nat → Bool) : Nat → Nat
  | 0 => 0
  | e + 1 => aro q e ||| (if q e then 2 ^ e else 0)
theorem aro_t {q : Nat → Bool} {e : Nat} (h : q e = true) : aro q (e + 1) = aro q e ||| 2 ^ e := by
  show aro q e ||| (if q e then 2 ^ e else 0) = _
  rw [if_pos h]
theorem aro_f0 {q : Nat → Bool} {e : Nat} (h : q e = false) : aro q (e + 1) = aro q e ||| 0 := by
  show aro q e ||| (if q e then 2 ^ e else 0) = _
  rw [h]
  rfl
theorem aro_f {q : Nat → Bool} {e : Nat} (h : q e = false) : aro q (e + 1) = aro q e := by rw [aro_f0 h, Nat.or_zero]
theorem nI_ne1 {k : Nat} (hk : k < 2147483648) : nI k ≠ -1 := fun q => by
  have h1 := congrArg Int32.toInt q
  rw [nI_toInt hk, show (-1 : Int32).toInt = -1 by decide] at h1
  omega
theorem xT_st {m : xM} {C S : Nat} {A B Y : Nat → Nat} (hT : xT m C S A B Y) : ∀ s, s < S → A s ≠ B s ∧ 1 ≤ Y s ∧ Y s ≤ 40 := fun s hs => ⟨(hT.2.2.2.2.1 s hs).2.2.2.2.2.1, (hT.2.2.2.2.1 s hs).2.2.2.2.2.2⟩
theorem mT_st {m : xM} {C S : Nat} {A B Y : Nat → Nat} (hT : mT m C S A B Y) : ∀ s, s < S → A s ≠ B s ∧ 1 ≤ Y s ∧ Y s ≤ 40 := fun s hs => ⟨(hT.2.2.2.2 s hs).2.2.2.2.2.1, (hT.2.2.2.2 s hs).2.2.2.2.2.2⟩
theorem opb_65 {S w : Nat} (hS12 : S ≤ 12) : opb S w < 65536 := Nat.lt_of_lt_of_le opb_lt (Nat.le_trans (Nat.pow_le_pow_right (by omega) hS12 : (2 : Nat) ^ S ≤ 2 ^ 12) (by decide))
theorem opb_o {S w : Nat} : ∀ i, i < S → (opb S w).testBit i = !(w.testBit i) := fun i hi => by rw [opb_bit, decide_eq_true hi, Bool.true_and]
theorem c_openNow {m : xM} {C S w : Nat} {A B Y : Nat → Nat} (hr : rS m) (hT : xT m C S A B Y) (hw : m.1 89 0 = nI w) : fC 112 [.ref 0] m (fun rv m' => rv = some (.int (nI (opb S w))) ∧ m = m') := by
  refine fC_of (by decide) (fun d n P H => ?_)
  replace H := f_aload_n H k112_0 rfl
  replace H := f_gr H k112_1 (ci := 11) (f := 1) (x := 3) (by decide +kernel) (by decide) (hr 0 1 3 rfl)
  replace H := f_aload_n H k112_4 rfl
  replace H := f_gr H k112_5 (ci := 11) (f := 9) (x := 89) (by decide +kernel) (by decide) (hr 0 9 89 rfl)
  replace H := f_gi H k112_8 (ci := 6) (f := 0) (by decide +kernel) (by decide)
  rw [hw] at H
  obtain ⟨rv, m3, ⟨rfl, e3⟩, h9_11⟩ := f_inv H k112_11 (by decide +kernel) (as := [.int _]) (b := 3) (r := []) (by rfl) (c_openBehind hr hT)
  replace H := h9_11
  replace H := f_iret H k112_14
  exact ⟨_, _, H, rfl, e3⟩
/-- the yards between two, as the reference has them -/
def fyd (t : Mt) : Nat → Nat → Int32 := fun a b => if t a b < 100000 then nI (t a b) else -1
theorem c_yardsE {m : xM} {C S w a b : Nat} {A B Y : Nat → Nat} (hr : rS m) (hC : C ≤ 8) (hS : ∀ s, s < S → A s ≠ B s ∧ 1 ≤ Y s ∧ Y s ≤ 40) (ha : a < C) (hb : b < C) (hX : mX m C (wsX A B Y w S).1 (wyX C S A B Y w)) : fC 85 [.ref 63, .int (nI a), .int (nI b)] m (fun rv m' => rv = some (.int (fyd (wyM C S A B Y w) a b)) ∧ m = m') := fun d P h => by
  obtain ⟨rv, m', hp, ho, e⟩ := c_yardsB hr hC ha hb hX (fwO_le (wsX_le hS) C) d P h
  refine ⟨rv, m', hp, ?_, e⟩
  rw [ho]
  unfold fyd
  have hq := wy_R (w := w) hC hS a b
  by_cases q : wyX C S A B Y w a b < 1000000
  · rw [if_pos q, if_pos (hq.mp q), wy_16 hC hS ha hb q]
  · rw [if_neg q, if_neg (fun z => q (hq.mpr z))]
theorem c_far {m : xM} {C S w : Nat} {A B Y : Nat → Nat} {z y : Int32} (hr : rS m) (hT : xT m C S A B Y) (hw : m.1 89 0 = nI w) : fC 130 [.ref 0, .int z, .int y] m (fun rv m' => ∃ v, rv = some (.int v) ∧ ftV C C (fyd (wyM C S A B Y w)) z y v) := by
  refine fC_of (by decide) (fun d n P H => ?_)
  have hC8 : C ≤ 8 := hT.2.2.1
  have hS12 : S ≤ 12 := hT.2.2.2.1
  have hSt := xT_st hT
  have neg : ∀ n, ¬ ((∃ a, a < C ∧ z = nI a) ∧ ∃ b, b < C ∧ y = nI b) → xF 130 (xw d) P n 16 [(0, .ref 0), (1, .int z), (2, .int y)] [] m → ∃ rv m', P rv m' ∧ ∃ v, rv = some (.int v) ∧ ftV C C (fyd (wyM C S A B Y w)) z y v := by
    intro n hn H
    replace H := f_iconst H k130_16 (v := -1) (by decide)
    replace H := f_iret H k130_17
    exact ⟨_, _, H, _, rfl, Or.inr ⟨hn, rfl⟩⟩
  replace H := f_aload_n H k130_0 rfl
  replace H := f_iload_n H k130_1 rfl
  obtain ⟨rv, m3, ⟨ho1, e3⟩, h9_2⟩ := f_inv H k130_2 (by decide +kernel) (as := [.int _]) (b := 0) (r := []) (by rfl) (c_isCornerN hr hT.1 (by omega))
  replace H := h9_2
  rw [← e3] at H
  clear e3
  rcases ho1 with ⟨a, ha, hza, rfl⟩ | ⟨h0, rfl⟩
  · subst hza
    replace H := f_if_eq_f H k130_5 (by decide)
    replace H := f_aload_n H k130_8 rfl
    replace H := f_iload_n H k130_9 rfl
    obtain ⟨rv, m4, ⟨ho2, e3⟩, h9_10⟩ := f_inv H k130_10 (by decide +kernel) (as := [.int _]) (b := 0) (r := []) (by rfl) (c_isCornerN hr hT.1 (by omega))
    replace H := h9_10
    rw [← e3] at H
    clear e3
    rcases ho2 with ⟨b, hb, hyb, rfl⟩ | ⟨h1, rfl⟩
    · subst hyb
      replace H := f_if_ne_t H k130_13 (by decide) (t := 18) (by decide)
      replace H := f_aload_n H k130_18 rfl
      replace H := f_gr H k130_19 (ci := 11) (f := 6) (x := 63) (by decide +kernel) (by decide) (hr 0 6 63 rfl)
      replace H := f_aload_n H k130_22 rfl
      replace H := f_gr H k130_23 (ci := 11) (f := 1) (x := 3) (by decide +kernel) (by decide) (hr 0 1 3 rfl)
      replace H := f_aload_n H k130_26 rfl
      obtain ⟨rv, m5, ⟨rfl, e3⟩, h9_27⟩ := f_inv H k130_27 (by decide +kernel) (as := []) (b := 0) (r := [.ref 3, .ref 63]) (by rfl) (c_openNow hr hT hw)
      replace H := h9_27
      rw [← e3] at H
      clear e3
      obtain ⟨rv, m6, ⟨rfl, hf, hX⟩, h9_30⟩ := f_inv H k130_30 (by decide +kernel) (as := [.ref 3, .int _]) (b := 63) (r := []) (by rfl) (c_measure hr hT opb_o (opb_65 hS12))
      replace H := h9_30
      have hr := frX_r hf hr
      replace H := f_aload_n H k130_33 rfl
      replace H := f_gr H k130_34 (ci := 11) (f := 6) (x := 63) (by decide +kernel) (by decide) (hr 0 6 63 rfl)
      replace H := f_iload_n H k130_37 rfl
      replace H := f_iload_n H k130_38 rfl
      obtain ⟨rv, m7, ⟨rfl, e3⟩, h9_39⟩ := f_inv H k130_39 (by decide +kernel) (as := [.int _, .int _]) (b := 63) (r := []) (by rfl) (c_yardsE hr hC8 hSt ha hb hX)
      replace H := h9_39
      replace H := f_iret H k130_42
      exact ⟨_, _, H, _, rfl, Or.inl ⟨a, b, ha, hb, rfl, rfl, rfl⟩⟩
    · replace H := f_if_ne_f H k130_13 rfl
      exact neg _ (fun q => by obtain ⟨b, hb, e⟩ := q.2; exact h1 b hb e) H
  · replace H := f_if_eq_t H k130_5 rfl (t := 16) (by decide)
    exact neg _ (fun q => by obtain ⟨a, ha, e⟩ := q.1; exact h0 a ha e) H
theorem c_mfar {m : xM} {C S w : Nat} {A B Y : Nat → Nat} {z y : Int32} (hr : rS m) (hT : mT m C S A B Y) (hw : m.1 326 24 = nI w) (hw2 : w < 65536) : fC 226 [.ref 314, .int z, .int y] m (fun rv m' => ∃ v, rv = some (.int v) ∧ ftV C C (fyd (wyM C S A B Y w)) z y v) := by
  refine fC_of (by decide) (fun d n P H => ?_)
  have c24 : (24 : Int32).toNatClampNeg = 24 := by decide
  replace H := f_aload_n H k226_0 rfl
  replace H := f_iconst H k226_1 (v := 0) (by decide)
  replace H := f_put_i H k226_2 (ci := 12) (f := 0) (by decide +kernel) (by decide)
  have hr : rS (mI m 314 0 0) := hr
  have hT : mT (mI m 314 0 0) C S A B Y := mT_f hT (fun i => ⟨⟨mI_ne (by omega), mI_ne (by omega)⟩, mI_ne (by omega)⟩)
  have hw : (mI m 314 0 0).1 326 24 = nI w := by rw [mI_ne (by omega)]; exact hw
  generalize mI m 314 0 0 = m at *
  have hC8 : C ≤ 8 := hT.2.2.1
  have hSt := mT_st hT
  have neg : ∀ n, ¬ ((∃ a, a < C ∧ z = nI a) ∧ ∃ b, b < C ∧ y = nI b) → xF 226 (xw d) P n 21 [(0, .ref 314), (1, .int z), (2, .int y)] [] m → ∃ rv m', P rv m' ∧ ∃ v, rv = some (.int v) ∧ ftV C C (fyd (wyM C S A B Y w)) z y v := by
    intro n hn H
    replace H := f_iconst H k226_21 (v := -1) (by decide)
    replace H := f_iret H k226_22
    exact ⟨_, _, H, _, rfl, Or.inr ⟨hn, rfl⟩⟩
  replace H := f_aload_n H k226_5 rfl
  replace H := f_iload_n H k226_6 rfl
  obtain ⟨rv, m3, ⟨ho1, e3⟩, h9_7⟩ := f_inv H k226_7 (by decide +kernel) (as := [.int _]) (b := 314) (r := []) (by rfl) (c_misCornerN hr hT.1 (by omega))
  replace H := h9_7
  rw [← e3] at H
  clear e3
  rcases ho1 with ⟨a, ha, hza, rfl⟩ | ⟨h0, rfl⟩
  · subst hza
    replace H := f_if_eq_f H k226_10 (by decide)
    replace H := f_aload_n H k226_13 rfl
    replace H := f_iload_n H k226_14 rfl
    obtain ⟨rv, m4, ⟨ho2, e3⟩, h9_15⟩ := f_inv H k226_15 (by decide +kernel) (as := [.int _]) (b := 314) (r := []) (by rfl) (c_misCornerN hr hT.1 (by omega))
    replace H := h9_15
    rw [← e3] at H
    clear e3
    rcases ho2 with ⟨b, hb, hyb, rfl⟩ | ⟨h1, rfl⟩
    · subst hyb
      replace H := f_if_ne_t H k226_18 (by decide) (t := 23) (by decide)
      replace H := f_aload_n H k226_23 rfl
      replace H := f_aload_n H k226_24 rfl
      replace H := f_gr H k226_25 (ci := 12) (f := 32) (x := 326) (by decide +kernel) (by decide) (hr 314 32 326 rfl)
      replace H := f_bipush H k226_28 (v := 24) (by decide)
      have Hob := f_iald H k226_30 (c := 208) (by decide)
      clear H
      obtain ⟨hb30, H⟩ := Hob
      rw [c24, hw] at H
      obtain ⟨rv, m6, ⟨rfl, hf, hY⟩, h9_31⟩ := f_inv H k226_31 (by decide +kernel) (as := [.int _]) (b := 314) (r := []) (by rfl) (c_laysYards hr hT hw2)
      replace H := h9_31
      have hr : rS m6 := fun a i b e => by rw [hf.1]; exact hr a i b e
      replace H := f_aload_n H k226_34 rfl
      replace H := f_iload_n H k226_35 rfl
      replace H := f_iload_n H k226_36 rfl
      obtain ⟨rv, m7, ⟨rfl, e3⟩, h9_37⟩ := f_inv H k226_37 (by decide +kernel) (as := [.int _, .int _]) (b := 314) (r := []) (by rfl) (c_mcan hr hC8 ha hb hY (fwO_le (wsM_le hSt) C))
      replace H := h9_37
      rw [← e3] at H
      clear e3
      by_cases q : wyM C S A B Y w a b < 100000
      · rw [if_pos q] at H
        replace H := f_if_eq_f H k226_40 (by decide)
        replace H := f_aload_n H k226_43 rfl
        replace H := f_iload_n H k226_44 rfl
        replace H := f_iload_n H k226_45 rfl
        obtain ⟨rv, m8, ⟨rfl, e3⟩, h9_46⟩ := f_inv H k226_46 (by decide +kernel) (as := [.int _, .int _]) (b := 314) (r := []) (by rfl) (c_far0 hr hC8 ha hb hY)
        replace H := h9_46
        rw [← e3] at H
        clear e3
        replace H := f_goto H k226_49 (t := 53) (by decide)
        replace H := f_iret H k226_53
        exact ⟨_, _, H, _, rfl, Or.inl ⟨a, b, ha, hb, rfl, rfl, by unfold fyd; rw [if_pos q]⟩⟩
      · rw [if_neg q] at H
        replace H := f_if_eq_t H k226_40 rfl (t := 52) (by decide)
        replace H := f_iconst H k226_52 (v := -1) (by decide)
        replace H := f_iret H k226_53
        exact ⟨_, _, H, _, rfl, Or.inl ⟨a, b, ha, hb, rfl, rfl, by unfold fyd; rw [if_neg q]⟩⟩
    · replace H := f_if_ne_f H k226_18 rfl
      exact neg _ (fun q => by obtain ⟨b, hb, e⟩ := q.2; exact h1 b hb e) H
  · replace H := f_if_eq_t H k226_10 rfl (t := 21) (by decide)
    exact neg _ (fun q => by obtain ⟨a, ha, e⟩ := q.1; exact h0 a ha e) H
/-- what lies around -/
def arG (C : Nat) (t : Mt) : Nat → Nat → Int32 := fun a b => nI (aro (fun c => decide (t a c ≤ b)) C)
theorem c_around {m : xM} {C S w : Nat} {A B Y : Nat → Nat} {z y : Int32} (hr : rS m) (hT : xT m C S A B Y) (hw : m.1 89 0 = nI w) : fC 133 [.ref 0, .int z, .int y] m (fun rv m' => ∃ v, rv = some (.int v) ∧ ftV C 100 (arG C (wyM C S A B Y w)) z y v) := by
  refine fC_of (by decide) (fun d n P H => ?_)
  have hC8 : C ≤ 8 := hT.2.2.1
  have hS12 : S ≤ 12 := hT.2.2.2.1
  have hSt := xT_st hT
  have neg : ∀ n, ¬ ((∃ a, a < C ∧ z = nI a) ∧ ∃ b, b < 100 ∧ y = nI b) → xF 133 (xw d) P n 18 [(0, .ref 0), (1, .int z), (2, .int y)] [] m → ∃ rv m', P rv m' ∧ ∃ v, rv = some (.int v) ∧ ftV C 100 (arG C (wyM C S A B Y w)) z y v := by
    intro n hn H
    replace H := f_iconst H k133_18 (v := -1) (by decide)
    replace H := f_iret H k133_19
    exact ⟨_, _, H, _, rfl, Or.inr ⟨hn, rfl⟩⟩
  replace H := f_aload_n H k133_0 rfl
  replace H := f_iload_n H k133_1 rfl
  obtain ⟨rv, m3, ⟨ho1, e3⟩, h9_2⟩ := f_inv H k133_2 (by decide +kernel) (as := [.int _]) (b := 0) (r := []) (by rfl) (c_isCornerN hr hT.1 (by omega))
  replace H := h9_2
  rw [← e3] at H
  clear e3
  rcases ho1 with ⟨a, ha, hza, rfl⟩ | ⟨h0, rfl⟩
  · subst hza
    replace H := f_if_eq_f H k133_5 (by decide)
    replace H := f_iload_n H k133_8 rfl
    have Hbr := f_if_lt H k133_9 (t := 18) (by decide)
    clear H
    rcases Hbr with ⟨c1, H⟩ | ⟨c1, H⟩
    · rw [Int32.lt_iff_toInt_lt, show (0 : Int32).toInt = 0 by decide] at c1
      exact neg _ (fun q => by obtain ⟨b, hb, e⟩ := q.2; rw [e, nI_toInt (by omega)] at c1; omega) H
    · rw [Int32.lt_iff_toInt_lt, show (0 : Int32).toInt = 0 by decide] at c1
      replace H := f_iload_n H k133_12 rfl
      replace H := f_bipush H k133_13 (v := 99) (by decide)
      have Hbr := f_icmp_le H k133_15 (t := 20) (by decide)
      clear H
      rcases Hbr with ⟨c2, H⟩ | ⟨c2, H⟩
      · rw [Int32.le_iff_toInt_le, show (99 : Int32).toInt = 99 by decide] at c2
        obtain ⟨b, hb, rfl⟩ := i_rng (x := y) (L := 99) (by omega) (by omega) (by decide)
        replace H := f_aload_n H k133_20 rfl
        replace H := f_gr H k133_21 (ci := 11) (f := 6) (x := 63) (by decide +kernel) (by decide) (hr 0 6 63 rfl)
        replace H := f_aload_n H k133_24 rfl
        replace H := f_gr H k133_25 (ci := 11) (f := 1) (x := 3) (by decide +kernel) (by decide) (hr 0 1 3 rfl)
        replace H := f_aload_n H k133_28 rfl
        obtain ⟨rv, m5, ⟨rfl, e3⟩, h9_29⟩ := f_inv H k133_29 (by decide +kernel) (as := []) (b := 0) (r := [.ref 3, .ref 63]) (by rfl) (c_openNow hr hT hw)
        replace H := h9_29
        rw [← e3] at H
        clear e3
        obtain ⟨rv, m6, ⟨rfl, hf, hX⟩, h9_32⟩ := f_inv H k133_32 (by decide +kernel) (as := [.ref 3, .int _]) (b := 63) (r := []) (by rfl) (c_measure hr hT opb_o (opb_65 hS12))
        replace H := h9_32
        have hr := frX_r hf hr
        have hc0 : m6.1 3 0 = nI C := by rw [hf.2 3 0 (by omega) (by omega)]; exact hT.1
        obtain ⟨q, hq⟩ : ∃ q : Nat → Bool, q = fun c => decide (wyM C S A B Y w a c ≤ b) := ⟨_, rfl⟩
        have lp : ∀ n e v5, e ≤ C → xF 133 (xw d) P n 40 [(4, .int (nI e)), (3, .int (nI (aro q e))), (5, .int v5), (0, .ref 0), (1, .int (nI a)), (2, .int (nI b))] [] m6 → ∃ rv m', P rv m' ∧ ∃ v, rv = some (.int v) ∧ ftV C 100 (arG C (wyM C S A B Y w)) (nI a) (nI b) v := by
          intro n
          induction n with
          | zero => exact fun e v5 _ H => (xF_0 H).elim
          | succ n ih =>
            intro e v5 he H
            replace H := f1_iload H k133_40 rfl
            replace H := f_aload_n H k133_42 rfl
            replace H := f_gr H k133_43 (ci := 11) (f := 1) (x := 3) (by decide +kernel) (by decide) (hr 0 1 3 rfl)
            replace H := f_gi H k133_46 (ci := 5) (f := 0) (by decide +kernel) (by decide)
            rw [hc0] at H
            have Hbr := f_icmp_ge H k133_49 (t := 89) (by decide)
            clear H
            rcases Hbr with ⟨c0, H⟩ | ⟨c0, H⟩
            · rw [nxle (by omega) (by omega)] at c0
              have ee : e = C := by omega
              replace H := f_iload_n H k133_89 rfl
              replace H := f_iret H k133_90
              refine ⟨_, _, H, _, rfl, Or.inl ⟨a, b, ha, by omega, rfl, rfl, ?_⟩⟩
              rw [ee, hq]
              rfl
            · rw [nxle (by omega) (by omega)] at c0
              replace H := f_aload_n H k133_52 rfl
              replace H := f_gr H k133_53 (ci := 11) (f := 6) (x := 63) (by decide +kernel) (by decide) (hr 0 6 63 rfl)
              replace H := f_iload_n H k133_56 rfl
              replace H := f_iload H k133_57 rfl
              obtain ⟨rv, m7, ⟨rfl, e3⟩, h9_59⟩ := f_inv H k133_59 (by decide +kernel) (as := [.int _, .int _]) (b := 63) (r := []) (by rfl) (c_yardsE hr hC8 hSt ha (by omega) hX)
              replace H := h9_59
              rw [← e3] at H
              clear e3
              have hne : q e = decide (wyM C S A B Y w a e ≤ b) := by rw [hq]
              have no : ∀ n v5, q e = false → xF 133 (xw d) P n 83 [(5, .int v5), (4, .int (nI e)), (3, .int (nI (aro q e))), (0, .ref 0), (1, .int (nI a)), (2, .int (nI b))] [] m6 → xF 133 (xw d) P n 40 [(4, .int (nI (e + 1))), (3, .int (nI (aro q (e + 1)))), (5, .int v5), (0, .ref 0), (1, .int (nI a)), (2, .int (nI b))] [] m6 := by
                intro n v5 h9 H
                replace H := f_iinc H k133_83 rfl (l2 := [(4, .int (nI e + 1)), (5, .int v5), (3, .int (nI (aro q e))), (0, .ref 0), (1, .int (nI a)), (2, .int (nI b))]) rfl
                replace H := f_goto H k133_86 (t := 40) (by decide)
                rw [nI_s] at H
                replace H := f_ext H (l' := [(4, .int (nI (e + 1))), (3, .int (nI (aro q e))), (5, .int v5), (0, .ref 0), (1, .int (nI a)), (2, .int (nI b))]) (lE_cons rfl (lE_cons rfl (lE_cons rfl (lE_cons rfl (lE_cons rfl (lE_cons rfl (lE_nil))))))) rfl rfl
                rw [aro_f h9]
                exact H
              by_cases h5 : wyM C S A B Y w a e < 100000
              · rw [show fyd (wyM C S A B Y w) a e = nI (wyM C S A B Y w a e) from if_pos h5] at H
                replace H := f_istore H k133_62 (l2 := [(5, .int _), (4, .int (nI e)), (3, .int (nI (aro q e))), (0, .ref 0), (1, .int (nI a)), (2, .int (nI b))]) rfl
                replace H := f_iload H k133_64 rfl
                replace H := f_iconst H k133_66 (v := -1) (by decide)
                replace H := f_icmp_eq_f H k133_67 (nI_ne1 (by omega))
                replace H := f_iload H k133_70 rfl
                replace H := f_iload_n H k133_72 rfl
                have Hbr := f_icmp_gt H k133_73 (t := 83) (by decide)
                clear H
                rcases Hbr with ⟨c1, H⟩ | ⟨c1, H⟩
                · rw [nxlt (by omega) (by omega)] at c1
                  exact ih (e + 1) _ (by omega) (no _ _ (by rw [hne]; exact decide_eq_false (by omega)) H)
                · rw [nxlt (by omega) (by omega)] at c1
                  have h9 : q e = true := by rw [hne]; exact decide_eq_true (by omega)
                  replace H := f_iload_n H k133_76 rfl
                  replace H := f_iconst H k133_77 (v := 1) (by decide)
                  replace H := f_iload H k133_78 rfl
                  replace H := f_ishl H k133_80
                  replace H := f_ior H k133_81
                  rw [shl_n (by omega), show nI (aro q e) ||| nI (2 ^ e) = nI (aro q (e + 1)) by rw [aro_t h9]; exact fa_or _ _] at H
                  replace H := f_istore_n H k133_82 (l2 := [(3, .int (nI (aro q (e + 1)))), (5, .int (nI (wyM C S A B Y w a e))), (4, .int (nI e)), (0, .ref 0), (1, .int (nI a)), (2, .int (nI b))]) rfl
                  replace H := f_iinc H k133_83 rfl (l2 := [(4, .int (nI e + 1)), (3, .int (nI (aro q (e + 1)))), (5, .int (nI (wyM C S A B Y w a e))), (0, .ref 0), (1, .int (nI a)), (2, .int (nI b))]) rfl
                  replace H := f_goto H k133_86 (t := 40) (by decide)
                  rw [nI_s] at H
                  exact ih (e + 1) _ (by omega) H
              · rw [show fyd (wyM C S A B Y w) a e = -1 from if_neg h5] at H
                replace H := f_istore H k133_62 (l2 := [(5, .int _), (4, .int (nI e)), (3, .int (nI (aro q e))), (0, .ref 0), (1, .int (nI a)), (2, .int (nI b))]) rfl
                replace H := f_iload H k133_64 rfl
                replace H := f_iconst H k133_66 (v := -1) (by decide)
                replace H := f_icmp_eq_t H k133_67 rfl (t := 83) (by decide)
                exact ih (e + 1) _ (by omega) (no _ _ (by rw [hne]; exact decide_eq_false (by omega)) H)
        replace H := f_iconst H k133_35 (v := 0) (by decide)
        replace H := f_istore_n H k133_36 (l2 := [(3, .int 0), (0, .ref 0), (1, .int (nI a)), (2, .int (nI b))]) rfl
        replace H := f_iconst H k133_37 (v := 0) (by decide)
        replace H := f_istore H k133_38 (l2 := [(4, .int 0), (3, .int 0), (0, .ref 0), (1, .int (nI a)), (2, .int (nI b))]) rfl
        replace H := f_ext H (l' := [(4, .int (nI 0)), (3, .int (nI (aro q 0))), (5, .int 0), (0, .ref 0), (1, .int (nI a)), (2, .int (nI b))]) (lE_cons rfl (lE_cons rfl (lE_cons rfl (lE_cons rfl (lE_cons rfl (lE_nil)))))) rfl rfl
        exact lp _ 0 _ (Nat.zero_le _) H
      · rw [Int32.le_iff_toInt_le, show (99 : Int32).toInt = 99 by decide] at c2
        exact neg _ (fun q => by obtain ⟨b, hb, e⟩ := q.2; rw [e, nI_toInt (by omega)] at c2; omega) H
  · replace H := f_if_eq_t H k133_5 rfl (t := 18) (by decide)
    exact neg _ (fun q => by obtain ⟨a, ha, e⟩ := q.1; exact h0 a ha e) H
theorem c_maround {m : xM} {C S w : Nat} {A B Y : Nat → Nat} {z y : Int32} (hr : rS m) (hT : mT m C S A B Y) (hw : m.1 326 24 = nI w) (hw2 : w < 65536) : fC 260 [.ref 314, .int z, .int y] m (fun rv m' => ∃ v, rv = some (.int v) ∧ ftV C 100 (arG C (wyM C S A B Y w)) z y v) := by
  refine fC_of (by decide) (fun d n P H => ?_)
  have c24 : (24 : Int32).toNatClampNeg = 24 := by decide
  replace H := f_aload_n H k260_0 rfl
  replace H := f_iconst H k260_1 (v := 0) (by decide)
  replace H := f_put_i H k260_2 (ci := 12) (f := 0) (by decide +kernel) (by decide)
  have hr : rS (mI m 314 0 0) := hr
  have hT : mT (mI m 314 0 0) C S A B Y := mT_f hT (fun i => ⟨⟨mI_ne (by omega), mI_ne (by omega)⟩, mI_ne (by omega)⟩)
  have hw : (mI m 314 0 0).1 326 24 = nI w := by rw [mI_ne (by omega)]; exact hw
  generalize mI m 314 0 0 = m at *
  have hC8 : C ≤ 8 := hT.2.2.1
  have hSt := mT_st hT
  have neg : ∀ n, ¬ ((∃ a, a < C ∧ z = nI a) ∧ ∃ b, b < 100 ∧ y = nI b) → xF 260 (xw d) P n 25 [(0, .ref 314), (1, .int z), (2, .int y)] [] m → ∃ rv m', P rv m' ∧ ∃ v, rv = some (.int v) ∧ ftV C 100 (arG C (wyM C S A B Y w)) z y v := by
    intro n hn H
    replace H := f_iconst H k260_25 (v := -1) (by decide)
    replace H := f_iret H k260_26
    exact ⟨_, _, H, _, rfl, Or.inr ⟨hn, rfl⟩⟩
  replace H := f_aload_n H k260_5 rfl
  replace H := f_iload_n H k260_6 rfl
  obtain ⟨rv, m3, ⟨ho1, e3⟩, h9_7⟩ := f_inv H k260_7 (by decide +kernel) (as := [.int _]) (b := 314) (r := []) (by rfl) (c_misCornerN hr hT.1 (by omega))
  replace H := h9_7
  rw [← e3] at H
  clear e3
  rcases ho1 with ⟨a, ha, hza, rfl⟩ | ⟨h0, rfl⟩
  · subst hza
    replace H := f_if_eq_f H k260_10 (by decide)
    replace H := f_iload_n H k260_13 rfl
    replace H := f_i2l H k260_14
    replace H := f_lconst H k260_15 (v := 0) (by decide)
    replace H := f_ldc2 H k260_16 (v := 99) (by decide +kernel)
    obtain ⟨rv, m3, ⟨ho, e3⟩, h9_19⟩ := f_ins H k260_19 (by decide +kernel) (as := [.long _, .long _, .long _]) (r := []) (by rfl) (c_isInK (v := y) (l := 0) (mo := 99) (by decide) (by decide))
    replace H := h9_19
    rw [← e3] at H
    clear e3
    rcases ho with ⟨o1, o2, rfl⟩ | ⟨o1, rfl⟩
    · rw [Int32.le_iff_toInt_le] at o1 o2
      rw [show (0 : Int32).toInt = 0 by decide] at o1
      rw [show (99 : Int32).toInt = 99 by decide] at o2
      obtain ⟨b, hb, rfl⟩ := i_rng (x := y) (L := 99) (by omega) (by omega) (by decide)
      replace H := f_if_ne_t H k260_22 (by decide) (t := 27) (by decide)
      replace H := f_aload_n H k260_27 rfl
      replace H := f_aload_n H k260_28 rfl
      replace H := f_gr H k260_29 (ci := 12) (f := 32) (x := 326) (by decide +kernel) (by decide) (hr 314 32 326 rfl)
      replace H := f_bipush H k260_32 (v := 24) (by decide)
      have Hob := f_iald H k260_34 (c := 208) (by decide)
      clear H
      obtain ⟨hb34, H⟩ := Hob
      rw [c24, hw] at H
      obtain ⟨rv, m6, ⟨rfl, hf, hY⟩, h9_35⟩ := f_inv H k260_35 (by decide +kernel) (as := [.int _]) (b := 314) (r := []) (by rfl) (c_laysYards hr hT hw2)
      replace H := h9_35
      have hr : rS m6 := fun a i b e => by rw [hf.1]; exact hr a i b e
      have hc0 : m6.1 314 25 = nI C := by rw [hf.2 314 25 (by omega)]; exact hT.1
      have hle : mle 100000 (wyM C S A B Y w) := fwO_le (wsM_le hSt) C
      obtain ⟨q, hq⟩ : ∃ q : Nat → Bool, q = fun c => decide (wyM C S A B Y w a c ≤ b) := ⟨_, rfl⟩
      have lp : ∀ n e, e ≤ C → xF 260 (xw d) P n 43 [(4, .int (nI e)), (3, .int (nI (aro q e))), (0, .ref 314), (1, .int (nI a)), (2, .int (nI b))] [] m6 → ∃ rv m', P rv m' ∧ ∃ v, rv = some (.int v) ∧ ftV C 100 (arG C (wyM C S A B Y w)) (nI a) (nI b) v := by
        intro n
        induction n with
        | zero => exact fun e _ H => (xF_0 H).elim
        | succ n ih =>
          intro e he H
          replace H := f1_iload H k260_43 rfl
          replace H := f_aload_n H k260_45 rfl
          replace H := f_gi H k260_46 (ci := 12) (f := 25) (by decide +kernel) (by decide)
          rw [hc0] at H
          have Hbr := f_icmp_ge H k260_49 (t := 80) (by decide)
          clear H
          rcases Hbr with ⟨c0, H⟩ | ⟨c0, H⟩
          · rw [nxle (by omega) (by omega)] at c0
            have ee : e = C := by omega
            replace H := f_iload_n H k260_80 rfl
            replace H := f_iret H k260_81
            refine ⟨_, _, H, _, rfl, Or.inl ⟨a, b, ha, by omega, rfl, rfl, ?_⟩⟩
            rw [ee, hq]
            rfl
          · rw [nxle (by omega) (by omega)] at c0
            replace H := f_iload_n H k260_52 rfl
            replace H := f_aload_n H k260_53 rfl
            replace H := f_iload_n H k260_54 rfl
            replace H := f_iload H k260_55 rfl
            obtain ⟨rv, m7, ⟨rfl, e3⟩, h9_57⟩ := f_inv H k260_57 (by decide +kernel) (as := [.int _, .int _]) (b := 314) (r := [.int _]) (by rfl) (c_far0 hr hC8 ha (by omega) hY)
            replace H := h9_57
            rw [← e3] at H
            clear e3
            have hne : q e = decide (wyM C S A B Y w a e ≤ b) := by rw [hq]
            have hl9 : wyM C S A B Y w a e ≤ 100000 := hle a e
            replace H := f_iload_n H k260_60 rfl
            have Hbr := f_icmp_gt H k260_61 (t := 71) (by decide)
            clear H
            rcases Hbr with ⟨c1, H⟩ | ⟨c1, H⟩
            · rw [nxlt (by omega) (by omega)] at c1
              have h9 : q e = false := by rw [hne]; exact decide_eq_false (by omega)
              replace H := f_iconst H k260_71 (v := 0) (by decide)
              replace H := f_ior H k260_72
              rw [show nI (aro q e) ||| 0 = nI (aro q (e + 1)) by rw [aro_f0 h9]; exact fa_or _ 0] at H
              replace H := f_istore_n H k260_73 (l2 := [(3, .int (nI (aro q (e + 1)))), (4, .int (nI e)), (0, .ref 314), (1, .int (nI a)), (2, .int (nI b))]) rfl
              replace H := f_iinc H k260_74 rfl (l2 := [(4, .int (nI e + 1)), (3, .int (nI (aro q (e + 1)))), (0, .ref 314), (1, .int (nI a)), (2, .int (nI b))]) rfl
              replace H := f_goto H k260_77 (t := 43) (by decide)
              rw [nI_s] at H
              exact ih (e + 1) (by omega) H
            · rw [nxlt (by omega) (by omega)] at c1
              have h9 : q e = true := by rw [hne]; exact decide_eq_true (by omega)
              replace H := f_iconst H k260_64 (v := 1) (by decide)
              replace H := f_iload H k260_65 rfl
              replace H := f_ishl H k260_67
              replace H := f_goto H k260_68 (t := 72) (by decide)
              replace H := f_ior H k260_72
              rw [shl_n (by omega), show nI (aro q e) ||| nI (2 ^ e) = nI (aro q (e + 1)) by rw [aro_t h9]; exact fa_or _ _] at H
              replace H := f_istore_n H k260_73 (l2 := [(3, .int (nI (aro q (e + 1)))), (4, .int (nI e)), (0, .ref 314), (1, .int (nI a)), (2, .int (nI b))]) rfl
              replace H := f_iinc H k260_74 rfl (l2 := [(4, .int (nI e + 1)), (3, .int (nI (aro q (e + 1)))), (0, .ref 314), (1, .int (nI a)), (2, .int (nI b))]) rfl
              replace H := f_goto H k260_77 (t := 43) (by decide)
              rw [nI_s] at H
              exact ih (e + 1) (by omega) H
      replace H := f_iconst H k260_38 (v := 0) (by decide)
      replace H := f_istore_n H k260_39 (l2 := [(3, .int 0), (0, .ref 314), (1, .int (nI a)), (2, .int (nI b))]) rfl
      replace H := f_iconst H k260_40 (v := 0) (by decide)
      replace H := f_istore H k260_41 (l2 := [(4, .int 0), (3, .int 0), (0, .ref 314), (1, .int (nI a)), (2, .int (nI b))]) rfl
      exact lp _ 0 (Nat.zero_le _) H
    · replace H := f_if_ne_f H k260_22 rfl
      rw [Int32.lt_iff_toInt_lt, Int32.lt_iff_toInt_lt, show (0 : Int32).toInt = 0 by decide, show (99 : Int32).toInt = 99 by decide] at o1
      exact neg _ (fun q => by obtain ⟨b, hb, e⟩ := q.2; rw [e, nI_toInt (by omega)] at o1; omega) H
  · replace H := f_if_eq_t H k260_10 rfl (t := 25) (by decide)
    exact neg _ (fun q => by obtain ⟨a, ha, e⟩ := q.1; exact h0 a ha e) H
