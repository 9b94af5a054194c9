theorem k102_0 : lkc 0 (kcode 102) = some (.aload_n 0) := by decide +kernel
theorem k102_1 : lkc 1 (kcode 102) = some (.iload_n 1) := by decide +kernel
theorem k102_2 : lkc 2 (kcode 102) = some (.invokevirtual 181) := by decide +kernel
theorem k102_5 : lkc 5 (kcode 102) = some (.ifCond .ne 5) := by decide +kernel
theorem k102_8 : lkc 8 (kcode 102) = some (.iconst (-1)) := by decide +kernel
theorem k102_9 : lkc 9 (kcode 102) = some (.ireturn) := by decide +kernel
theorem k102_10 : lkc 10 (kcode 102) = some (.iload_n 2) := by decide +kernel
theorem k102_40 : lkc 40 (kcode 102) = some (.aload_n 0) := by decide +kernel
theorem k102_41 : lkc 41 (kcode 102) = some (.getfield 19) := by decide +kernel
theorem k102_44 : lkc 44 (kcode 102) = some (.iload_n 1) := by decide +kernel
theorem k102_45 : lkc 45 (kcode 102) = some (.invokevirtual 184) := by decide +kernel
theorem k102_48 : lkc 48 (kcode 102) = some (.ireturn) := by decide +kernel
theorem k102_49 : lkc 49 (kcode 102) = some (.aload_n 0) := by decide +kernel
theorem k102_50 : lkc 50 (kcode 102) = some (.getfield 19) := by decide +kernel
theorem k102_53 : lkc 53 (kcode 102) = some (.iload_n 1) := by decide +kernel
theorem k102_54 : lkc 54 (kcode 102) = some (.invokevirtual 187) := by decide +kernel
theorem k102_57 : lkc 57 (kcode 102) = some (.ireturn) := by decide +kernel
theorem k102_58 : lkc 58 (kcode 102) = some (.aload_n 0) := by decide +kernel
theorem k102_59 : lkc 59 (kcode 102) = some (.getfield 19) := by decide +kernel
theorem k102_62 : lkc 62 (kcode 102) = some (.iload_n 1) := by decide +kernel
theorem k102_63 : lkc 63 (kcode 102) = some (.invokevirtual 190) := by decide +kernel
theorem k102_66 : lkc 66 (kcode 102) = some (.ireturn) := by decide +kernel
theorem k102_67 : lkc 67 (kcode 102) = some (.aload_n 0) := by decide +kernel
theorem k102_68 : lkc 68 (kcode 102) = some (.getfield 75) := by decide +kernel
theorem k102_71 : lkc 71 (kcode 102) = some (.getfield 193) := by decide +kernel
theorem k102_74 : lkc 74 (kcode 102) = some (.iload_n 1) := by decide +kernel
theorem k102_75 : lkc 75 (kcode 102) = some (.ishr) := by decide +kernel
theorem k102_76 : lkc 76 (kcode 102) = some (.iconst 1) := by decide +kernel
theorem k102_77 : lkc 77 (kcode 102) = some (.iand) := by decide +kernel
theorem k102_78 : lkc 78 (kcode 102) = some (.ireturn) := by decide +kernel
theorem k102_79 : lkc 79 (kcode 102) = some (.iconst (-1)) := by decide +kernel
theorem k102_80 : lkc 80 (kcode 102) = some (.ireturn) := by decide +kernel
theorem k206_0 : lkc 0 (kcode 206) = some (.aload_n 0) := by decide +kernel
theorem k206_1 : lkc 1 (kcode 206) = some (.iconst 0) := by decide +kernel
theorem k206_2 : lkc 2 (kcode 206) = some (.putfield 90) := by decide +kernel
theorem k206_5 : lkc 5 (kcode 206) = some (.aload_n 0) := by decide +kernel
theorem k206_6 : lkc 6 (kcode 206) = some (.iload_n 1) := by decide +kernel
theorem k206_7 : lkc 7 (kcode 206) = some (.invokevirtual 357) := by decide +kernel
theorem k206_10 : lkc 10 (kcode 206) = some (.ifCond .eq 15) := by decide +kernel
theorem k206_13 : lkc 13 (kcode 206) = some (.iload_n 2) := by decide +kernel
theorem k206_14 : lkc 14 (kcode 206) = some (.i2l) := by decide +kernel
theorem k206_15 : lkc 15 (kcode 206) = some (.lconst 0) := by decide +kernel
theorem k206_16 : lkc 16 (kcode 206) = some (.ldc2_w 360) := by decide +kernel
theorem k206_19 : lkc 19 (kcode 206) = some (.invokestatic 211) := by decide +kernel
theorem k206_22 : lkc 22 (kcode 206) = some (.ifCond .ne 5) := by decide +kernel
theorem k206_25 : lkc 25 (kcode 206) = some (.iconst (-1)) := by decide +kernel
theorem k206_26 : lkc 26 (kcode 206) = some (.ireturn) := by decide +kernel
theorem k206_27 : lkc 27 (kcode 206) = some (.iload_n 2) := by decide +kernel
theorem k206_28 : lkc 28 (kcode 206) = some (.iconst 3) := by decide +kernel
theorem k206_29 : lkc 29 (kcode 206) = some (.if_icmp .ne 17) := by decide +kernel
theorem k206_32 : lkc 32 (kcode 206) = some (.aload_n 0) := by decide +kernel
theorem k206_33 : lkc 33 (kcode 206) = some (.getfield 58) := by decide +kernel
theorem k206_36 : lkc 36 (kcode 206) = some (.bipush 24) := by decide +kernel
theorem k206_38 : lkc 38 (kcode 206) = some (.iaload) := by decide +kernel
theorem k206_39 : lkc 39 (kcode 206) = some (.iload_n 1) := by decide +kernel
theorem k206_40 : lkc 40 (kcode 206) = some (.ishr) := by decide +kernel
theorem k206_41 : lkc 41 (kcode 206) = some (.iconst 1) := by decide +kernel
theorem k206_42 : lkc 42 (kcode 206) = some (.iand) := by decide +kernel
theorem k206_43 : lkc 43 (kcode 206) = some (.goto 13) := by decide +kernel
theorem k206_46 : lkc 46 (kcode 206) = some (.aload_n 0) := by decide +kernel
theorem k206_47 : lkc 47 (kcode 206) = some (.getfield 40) := by decide +kernel
theorem k206_50 : lkc 50 (kcode 206) = some (.iconst 4) := by decide +kernel
theorem k206_51 : lkc 51 (kcode 206) = some (.iload_n 1) := by decide +kernel
theorem k206_52 : lkc 52 (kcode 206) = some (.imul) := by decide +kernel
theorem k206_53 : lkc 53 (kcode 206) = some (.iload_n 2) := by decide +kernel
theorem k206_54 : lkc 54 (kcode 206) = some (.iadd) := by decide +kernel
theorem k206_55 : lkc 55 (kcode 206) = some (.iaload) := by decide +kernel
theorem k206_56 : lkc 56 (kcode 206) = some (.ireturn) := by decide +kernel
/-! forward: street, walker (both sides) -/
def stV (S w : Nat) (A B Y : Nat → Nat) (z y v : Int32) : Prop := (∃ e, e < S ∧ z = nI e ∧ ((y = 0 ∧ v = nI (A e)) ∨ (y = 1 ∧ v = nI (B e)) ∨ (y = 2 ∧ v = nI (Y e)) ∨ (y = 3 ∧ v = if w.testBit e then 1 else 0))) ∨ (¬ ((∃ e, e < S ∧ z = nI e) ∧ (y = 0 ∨ y = 1 ∨ y = 2 ∨ y = 3)) ∧ v = -1)
theorem stV_1 {S w : Nat} {A B Y : Nat → Nat} {z y v u : Int32} (hS : S ≤ 12) (h : stV S w A B Y z y v) (g : stV S w A B Y z y u) : v = u := by
  rcases h with ⟨e, h1, h2, h3⟩ | ⟨h1, h2⟩
  · rcases g with ⟨e', g1, g2, g3⟩ | ⟨g1, g2⟩
    · have : e = e' := by
        rw [h2] at g2
        exact (nI_inj (by omega) (by omega)).mp g2
      subst this
      rcases h3 with ⟨a, b⟩ | ⟨a, b⟩ | ⟨a, b⟩ | ⟨a, b⟩ <;> rcases g3 with ⟨a', b'⟩ | ⟨a', b'⟩ | ⟨a', b'⟩ | ⟨a', b'⟩ <;> first
        | exact b.trans b'.symm
        | exact absurd (a.symm.trans a') (by decide)
    · exact absurd ⟨⟨e, h1, h2⟩, by rcases h3 with h | h | h | h <;> simp only [h.1, true_or, or_true]⟩ g1
  · rcases g with ⟨e', g1, g2, g3⟩ | ⟨g1, g2⟩
    · exact absurd ⟨⟨e', g1, g2⟩, by rcases g3 with h | h | h | h <;> simp only [h.1, true_or, or_true]⟩ h1
    · exact h2.trans g2.symm
theorem k102_11 : lkc 11 (kcode 102) = some (.tableswitch 68 0 3 #[29, 38, 47, 56]) := by decide +kernel
theorem c_street {m : xM} {C S w : Nat} {A B Y : Nat → Nat} {z y : Int32} (hr : rS m) (hT : xT m C S A B Y) (hw : m.1 89 0 = nI w) (hw2 : w < 65536) : fC 102 [.ref 0, .int z, .int y] m (fun rv m' => ∃ v, rv = some (.int v) ∧ stV S w A B Y z y v ∧ m = m') := by
  refine fC_of (by decide) (fun d n P H => ?_)
  have hS12 : S ≤ 12 := hT.2.2.2.1
  have hz : ∀ k : Int32, y.toInt = k.toInt → y = k := fun k h => Int32.toInt_inj.mp h
  replace H := f_aload_n H k102_0 rfl
  replace H := f_iload_n H k102_1 rfl
  obtain ⟨rv, m3, ⟨ho, e3⟩, h9_2⟩ := f_inv H k102_2 (by decide +kernel) (as := [.int _]) (b := 0) (r := []) (by rfl) (c_isStreet hr hT.2.1 (by omega))
  replace H := h9_2
  rw [← e3] at H
  clear e3
  rcases ho with ⟨e, h0, hze, rfl⟩ | ⟨h0, rfl⟩
  · subst hze
    replace H := f_if_ne_t H k102_5 (by decide) (t := 10) (by decide)
    replace H := f_iload_n H k102_10 rfl
    rcases f_tsw H k102_11 with ⟨c, H⟩ | ⟨c1, c2, o, eo, H⟩
    · replace H : xF 102 (xw d) P n 79 [(0, .ref 0), (1, .int (nI e)), (2, .int y)] [] m := H
      replace H := f_iconst H k102_79 (v := -1) (by decide)
      replace H := f_iret H k102_80
      refine ⟨_, _, H, _, rfl, Or.inr ⟨fun q => ?_, rfl⟩, rfl⟩
      rcases q.2 with q | q | q | q <;> (rw [q] at c; revert c; decide)
    · have h3 : y = 0 ∨ y = 1 ∨ y = 2 ∨ y = 3 := by
        have : y.toInt = 0 ∨ y.toInt = 1 ∨ y.toInt = 2 ∨ y.toInt = 3 := by omega
        rcases this with e | e | e | e
        · exact Or.inl (hz 0 e)
        · exact Or.inr (Or.inl (hz 1 e))
        · exact Or.inr (Or.inr (Or.inl (hz 2 e)))
        · exact Or.inr (Or.inr (Or.inr (hz 3 e)))
      rcases h3 with rfl | rfl | rfl | rfl
      · have e4 : o = 29 := (Option.some.inj eo).symm
        subst e4
        replace H : xF 102 (xw d) P n 40 [(0, .ref 0), (1, .int (nI e)), (2, .int 0)] [] m := H
        replace H := f_aload_n H k102_40 rfl
        replace H := f_gr H k102_41 (ci := 11) (f := 1) (x := 3) (by decide +kernel) (by decide) (hr 0 1 3 rfl)
        replace H := f_iload_n H k102_44 rfl
        obtain ⟨rv, m3, ⟨rfl, e3⟩, h9_45⟩ := f_inv H k102_45 (by decide +kernel) (as := [.int _]) (b := 3) (r := []) (by rfl) (cn_endA hr hT h0)
        replace H := h9_45
        replace H := f_iret H k102_48
        exact ⟨_, _, H, _, rfl, Or.inl ⟨e, h0, rfl, Or.inl ⟨rfl, rfl⟩⟩, e3⟩
      · have e4 : o = 38 := (Option.some.inj eo).symm
        subst e4
        replace H : xF 102 (xw d) P n 49 [(0, .ref 0), (1, .int (nI e)), (2, .int 1)] [] m := H
        replace H := f_aload_n H k102_49 rfl
        replace H := f_gr H k102_50 (ci := 11) (f := 1) (x := 3) (by decide +kernel) (by decide) (hr 0 1 3 rfl)
        replace H := f_iload_n H k102_53 rfl
        obtain ⟨rv, m3, ⟨rfl, e3⟩, h9_54⟩ := f_inv H k102_54 (by decide +kernel) (as := [.int _]) (b := 3) (r := []) (by rfl) (cn_endB hr hT h0)
        replace H := h9_54
        replace H := f_iret H k102_57
        exact ⟨_, _, H, _, rfl, Or.inl ⟨e, h0, rfl, Or.inr (Or.inl ⟨rfl, rfl⟩)⟩, e3⟩
      · have e4 : o = 47 := (Option.some.inj eo).symm
        subst e4
        replace H : xF 102 (xw d) P n 58 [(0, .ref 0), (1, .int (nI e)), (2, .int 2)] [] m := H
        replace H := f_aload_n H k102_58 rfl
        replace H := f_gr H k102_59 (ci := 11) (f := 1) (x := 3) (by decide +kernel) (by decide) (hr 0 1 3 rfl)
        replace H := f_iload_n H k102_62 rfl
        obtain ⟨rv, m3, ⟨rfl, e3⟩, h9_63⟩ := f_inv H k102_63 (by decide +kernel) (as := [.int _]) (b := 3) (r := []) (by rfl) (cn_yardsOf hr hT h0)
        replace H := h9_63
        replace H := f_iret H k102_66
        exact ⟨_, _, H, _, rfl, Or.inl ⟨e, h0, rfl, Or.inr (Or.inr (Or.inl ⟨rfl, rfl⟩))⟩, e3⟩
      · have e4 : o = 56 := (Option.some.inj eo).symm
        subst e4
        replace H : xF 102 (xw d) P n 67 [(0, .ref 0), (1, .int (nI e)), (2, .int 3)] [] m := H
        replace H := f_aload_n H k102_67 rfl
        replace H := f_gr H k102_68 (ci := 11) (f := 9) (x := 89) (by decide +kernel) (by decide) (hr 0 9 89 rfl)
        replace H := f_gi H k102_71 (ci := 6) (f := 0) (by decide +kernel) (by decide)
        replace H := f_iload_n H k102_74 rfl
        replace H := f_ishr H k102_75
        replace H := f_iconst H k102_76 (v := 1) (by decide)
        replace H := f_iand H k102_77
        rw [hw, has_n (by omega) (by omega)] at H
        replace H := f_iret H k102_78
        exact ⟨_, _, H, _, rfl, Or.inl ⟨e, h0, rfl, Or.inr (Or.inr (Or.inr ⟨rfl, rfl⟩))⟩, rfl⟩
  · replace H := f_if_ne_f H k102_5 (by decide)
    replace H := f_iconst H k102_8 (v := -1) (by decide)
    replace H := f_iret H k102_9
    exact ⟨_, _, H, _, rfl, Or.inr ⟨fun ⟨⟨e, q1, q2⟩, _⟩ => h0 e q1 q2, rfl⟩, rfl⟩
theorem c_mstreet {m : xM} {C S w : Nat} {A B Y : Nat → Nat} {z y : Int32} (hr : rS m) (hT : mT m C S A B Y) (hw : m.1 326 24 = nI w) (hw2 : w < 65536) : fC 206 [.ref 314, .int z, .int y] m (fun rv m' => ∃ v, rv = some (.int v) ∧ stV S w A B Y z y v ∧ m' = mI m 314 0 0) := by
  refine fC_of (by decide) (fun d n P H => ?_)
  have hS12 : S ≤ 12 := hT.2.2.2.1
  have c24 : (24 : Int32).toNatClampNeg = 24 := by decide
  have hz : ∀ k : Int32, y.toInt = k.toInt → y = k := fun k h => Int32.toInt_inj.mp h
  replace H := f_aload_n H k206_0 rfl
  replace H := f_iconst H k206_1 (v := 0) (by decide)
  replace H := f_put_i H k206_2 (ci := 12) (f := 0) (by decide +kernel) (by decide)
  have hT1 : mT (mI m 314 0 0) C S A B Y := mT_f hT (fun i => ⟨⟨mI_ne (by omega), mI_ne (by omega)⟩, mI_ne (by omega)⟩)
  have hw1 : (mI m 314 0 0).1 326 24 = nI w := by rw [mI_ne (by omega)]; exact hw
  replace hr : rS (mI m 314 0 0) := hr
  clear hT hw
  generalize mI m 314 0 0 = m at *
  have t5 := hT1.2.2.2.2
  have neg : ∀ n, ¬ ((∃ e, e < S ∧ z = nI e) ∧ (y = 0 ∨ y = 1 ∨ y = 2 ∨ y = 3)) → xF 206 (xw d) P n 25 [(0, .ref 314), (1, .int z), (2, .int y)] [] m → ∃ rv m', P rv m' ∧ ∃ v, rv = some (.int v) ∧ stV S w A B Y z y v ∧ m' = m := by
    intro n hn H
    replace H := f_iconst H k206_25 (v := -1) (by decide)
    replace H := f_iret H k206_26
    exact ⟨_, _, H, _, rfl, Or.inr ⟨hn, rfl⟩, rfl⟩
  replace H := f_aload_n H k206_5 rfl
  replace H := f_iload_n H k206_6 rfl
  obtain ⟨rv, m3, ⟨ho, e3⟩, h9_7⟩ := f_inv H k206_7 (by decide +kernel) (as := [.int _]) (b := 314) (r := []) (by rfl) (c_misStreet hr hT1.2.1 (by omega))
  replace H := h9_7
  rw [← e3] at H
  clear e3
  rcases ho with ⟨e, h0, hze, rfl⟩ | ⟨h0, rfl⟩
  · subst hze
    replace H := f_if_eq_f H k206_10 (by decide)
    replace H := f_iload_n H k206_13 rfl
    replace H := f_i2l H k206_14
    replace H := f_lconst H k206_15 (v := 0) (by decide)
    replace H := f_ldc2 H k206_16 (v := 3) (by decide +kernel)
    obtain ⟨rv, m3, ⟨ho, e3⟩, h9_19⟩ := f_ins H k206_19 (by decide +kernel) (as := [.long _, .long _, .long _]) (r := []) (by rfl) (c_isInK (v := y) (l := 0) (mo := 3) (by decide) (by decide))
    replace H := h9_19
    rw [← e3] at H
    clear e3
    obtain ⟨t1, t2, t3, -⟩ := t5 e h0
    rcases ho with ⟨c1, c2, rfl⟩ | ⟨c1, rfl⟩
    · rw [Int32.le_iff_toInt_le, show (0 : Int32).toInt = 0 by decide] at c1
      rw [Int32.le_iff_toInt_le, show (3 : Int32).toInt = 3 by decide] at c2
      have h3 : y = 0 ∨ y = 1 ∨ y = 2 ∨ y = 3 := by
        have : y.toInt = 0 ∨ y.toInt = 1 ∨ y.toInt = 2 ∨ y.toInt = 3 := by omega
        rcases this with e | e | e | e
        · exact Or.inl (hz 0 e)
        · exact Or.inr (Or.inl (hz 1 e))
        · exact Or.inr (Or.inr (Or.inl (hz 2 e)))
        · exact Or.inr (Or.inr (Or.inr (hz 3 e)))
      replace H := f_if_ne_t H k206_22 (by decide) (t := 27) (by decide)
      rcases h3 with rfl | rfl | rfl | rfl
      · replace H := f_iload_n H k206_27 rfl
        replace H := f_iconst H k206_28 (v := 3) (by decide)
        replace H := f_icmp_ne_t H k206_29 (by decide) (t := 46) (by decide)
        replace H := f_aload_n H k206_46 rfl
        replace H := f_gr H k206_47 (ci := 12) (f := 19) (x := 320) (by decide +kernel) (by decide) (hr 314 19 320 rfl)
        replace H := f_iconst H k206_50 (v := 4) (by decide)
        replace H := f_iload_n H k206_51 rfl
        replace H := f_imul H k206_52
        replace H := f_iload_n H k206_53 rfl
        replace H := f_iadd H k206_54
        have Hob := f_iald H k206_55 (c := 48) (by decide)
        clear H
        obtain ⟨hb55, H⟩ := Hob
        rw [show (4 : Int32) = nI 4 from rfl, show (0 : Int32) = nI 0 from rfl, nI_mul, r_ad, nI_clamp (by omega), Nat.add_zero (4 * e), t1] at H
        replace H := f_iret H k206_56
        exact ⟨_, _, H, _, rfl, Or.inl ⟨e, h0, rfl, Or.inl ⟨rfl, rfl⟩⟩, rfl⟩
      · replace H := f_iload_n H k206_27 rfl
        replace H := f_iconst H k206_28 (v := 3) (by decide)
        replace H := f_icmp_ne_t H k206_29 (by decide) (t := 46) (by decide)
        replace H := f_aload_n H k206_46 rfl
        replace H := f_gr H k206_47 (ci := 12) (f := 19) (x := 320) (by decide +kernel) (by decide) (hr 314 19 320 rfl)
        replace H := f_iconst H k206_50 (v := 4) (by decide)
        replace H := f_iload_n H k206_51 rfl
        replace H := f_imul H k206_52
        replace H := f_iload_n H k206_53 rfl
        replace H := f_iadd H k206_54
        have Hob := f_iald H k206_55 (c := 48) (by decide)
        clear H
        obtain ⟨hb55, H⟩ := Hob
        rw [show (4 : Int32) = nI 4 from rfl, show (1 : Int32) = nI 1 from rfl, nI_mul, r_ad, nI_clamp (by omega), t2] at H
        replace H := f_iret H k206_56
        exact ⟨_, _, H, _, rfl, Or.inl ⟨e, h0, rfl, Or.inr (Or.inl ⟨rfl, rfl⟩)⟩, rfl⟩
      · replace H := f_iload_n H k206_27 rfl
        replace H := f_iconst H k206_28 (v := 3) (by decide)
        replace H := f_icmp_ne_t H k206_29 (by decide) (t := 46) (by decide)
        replace H := f_aload_n H k206_46 rfl
        replace H := f_gr H k206_47 (ci := 12) (f := 19) (x := 320) (by decide +kernel) (by decide) (hr 314 19 320 rfl)
        replace H := f_iconst H k206_50 (v := 4) (by decide)
        replace H := f_iload_n H k206_51 rfl
        replace H := f_imul H k206_52
        replace H := f_iload_n H k206_53 rfl
        replace H := f_iadd H k206_54
        have Hob := f_iald H k206_55 (c := 48) (by decide)
        clear H
        obtain ⟨hb55, H⟩ := Hob
        rw [show (4 : Int32) = nI 4 from rfl, show (2 : Int32) = nI 2 from rfl, nI_mul, r_ad, nI_clamp (by omega), t3] at H
        replace H := f_iret H k206_56
        exact ⟨_, _, H, _, rfl, Or.inl ⟨e, h0, rfl, Or.inr (Or.inr (Or.inl ⟨rfl, rfl⟩))⟩, rfl⟩
      · replace H := f_iload_n H k206_27 rfl
        replace H := f_iconst H k206_28 (v := 3) (by decide)
        replace H := f_icmp_ne_f H k206_29 (by decide)
        replace H := f_aload_n H k206_32 rfl
        replace H := f_gr H k206_33 (ci := 12) (f := 32) (x := 326) (by decide +kernel) (by decide) (hr 314 32 326 rfl)
        replace H := f_bipush H k206_36 (v := 24) (by decide)
        have Hob := f_iald H k206_38 (c := 208) (by decide)
        clear H
        obtain ⟨hb38, H⟩ := Hob
        replace H := f_iload_n H k206_39 rfl
        replace H := f_ishr H k206_40
        replace H := f_iconst H k206_41 (v := 1) (by decide)
        replace H := f_iand H k206_42
        replace H := f_goto H k206_43 (t := 56) (by decide)
        rw [c24, hw1, has_n (by omega) (by omega)] at H
        replace H := f_iret H k206_56
        exact ⟨_, _, H, _, rfl, Or.inl ⟨e, h0, rfl, Or.inr (Or.inr (Or.inr ⟨rfl, rfl⟩))⟩, rfl⟩
    · replace H := f_if_ne_f H k206_22 (by decide)
      exact neg _ (fun q => by
        rcases c1 with c1 | c1 <;> rcases q.2 with q | q | q | q <;> (rw [q] at c1; revert c1; decide)) H
  · replace H := f_if_eq_t H k206_10 rfl (t := 25) (by decide)
    exact neg _ (fun ⟨⟨e, q1, q2⟩, _⟩ => h0 e q1 q2) H
