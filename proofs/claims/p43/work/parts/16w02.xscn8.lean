theorem k5_0 : lkc 0 (kcode 5) = some (.aload_n 0) := by decide +kernel
theorem k5_1 : lkc 1 (kcode 5) = some (.getfield 9) := by decide +kernel
theorem k5_4 : lkc 4 (kcode 5) = some (.aload_n 1) := by decide +kernel
theorem k5_5 : lkc 5 (kcode 5) = some (.getfield 23) := by decide +kernel
theorem k5_8 : lkc 8 (kcode 5) = some (.invokevirtual 29) := by decide +kernel
theorem k5_11 : lkc 11 (kcode 5) = some (.istore_n 2) := by decide +kernel
theorem k5_12 : lkc 12 (kcode 5) = some (.aload_n 0) := by decide +kernel
theorem k5_13 : lkc 13 (kcode 5) = some (.aload_n 0) := by decide +kernel
theorem k5_14 : lkc 14 (kcode 5) = some (.getfield 9) := by decide +kernel
theorem k5_17 : lkc 17 (kcode 5) = some (.iload_n 2) := by decide +kernel
theorem k5_18 : lkc 18 (kcode 5) = some (.invokevirtual 35) := by decide +kernel
theorem k5_21 : lkc 21 (kcode 5) = some (.putfield 38) := by decide +kernel
theorem k5_24 : lkc 24 (kcode 5) = some (.aload_n 0) := by decide +kernel
theorem k5_25 : lkc 25 (kcode 5) = some (.getfield 15) := by decide +kernel
theorem k5_28 : lkc 28 (kcode 5) = some (.aload_n 0) := by decide +kernel
theorem k5_29 : lkc 29 (kcode 5) = some (.getfield 9) := by decide +kernel
theorem k5_32 : lkc 32 (kcode 5) = some (.iload_n 2) := by decide +kernel
theorem k5_33 : lkc 33 (kcode 5) = some (.invokevirtual 41) := by decide +kernel
theorem k5_36 : lkc 36 (kcode 5) = some (.return_) := by decide +kernel
theorem k9_0 : lkc 0 (kcode 9) = some (.aload_n 0) := by decide +kernel
theorem k9_1 : lkc 1 (kcode 9) = some (.iconst 0) := by decide +kernel
theorem k9_2 : lkc 2 (kcode 9) = some (.putfield 109) := by decide +kernel
theorem k9_5 : lkc 5 (kcode 9) = some (.aload_n 0) := by decide +kernel
theorem k9_6 : lkc 6 (kcode 9) = some (.iconst 0) := by decide +kernel
theorem k9_7 : lkc 7 (kcode 9) = some (.putfield 112) := by decide +kernel
theorem k9_10 : lkc 10 (kcode 9) = some (.aload_n 0) := by decide +kernel
theorem k9_11 : lkc 11 (kcode 9) = some (.iconst 0) := by decide +kernel
theorem k9_12 : lkc 12 (kcode 9) = some (.putfield 115) := by decide +kernel
theorem k9_15 : lkc 15 (kcode 9) = some (.iconst 0) := by decide +kernel
theorem k9_16 : lkc 16 (kcode 9) = some (.istore_n 2) := by decide +kernel
theorem k9_17 : lkc 17 (kcode 9) = some (.iload_n 2) := by decide +kernel
theorem k9_18 : lkc 18 (kcode 9) = some (.aload_n 0) := by decide +kernel
theorem k9_19 : lkc 19 (kcode 9) = some (.getfield 9) := by decide +kernel
theorem k9_22 : lkc 22 (kcode 9) = some (.getfield 118) := by decide +kernel
theorem k9_25 : lkc 25 (kcode 9) = some (.if_icmp .ge 96) := by decide +kernel
theorem k9_28 : lkc 28 (kcode 9) = some (.aload_n 0) := by decide +kernel
theorem k9_29 : lkc 29 (kcode 9) = some (.aload_n 1) := by decide +kernel
theorem k9_30 : lkc 30 (kcode 9) = some (.iload_n 2) := by decide +kernel
theorem k9_31 : lkc 31 (kcode 9) = some (.invokevirtual 121) := by decide +kernel
theorem k9_34 : lkc 34 (kcode 9) = some (.istore_n 3) := by decide +kernel
theorem k9_35 : lkc 35 (kcode 9) = some (.iload_n 3) := by decide +kernel
theorem k9_36 : lkc 36 (kcode 9) = some (.iconst (-1)) := by decide +kernel
theorem k9_37 : lkc 37 (kcode 9) = some (.if_icmp .ne 36) := by decide +kernel
theorem k9_40 : lkc 40 (kcode 9) = some (.aload_n 0) := by decide +kernel
theorem k9_41 : lkc 41 (kcode 9) = some (.dup) := by decide +kernel
theorem k9_42 : lkc 42 (kcode 9) = some (.getfield 112) := by decide +kernel
theorem k9_45 : lkc 45 (kcode 9) = some (.iconst 1) := by decide +kernel
theorem k9_46 : lkc 46 (kcode 9) = some (.iload_n 2) := by decide +kernel
theorem k9_47 : lkc 47 (kcode 9) = some (.ishl) := by decide +kernel
theorem k9_48 : lkc 48 (kcode 9) = some (.ior) := by decide +kernel
theorem k9_49 : lkc 49 (kcode 9) = some (.putfield 112) := by decide +kernel
theorem k9_52 : lkc 52 (kcode 9) = some (.aload_n 1) := by decide +kernel
theorem k9_53 : lkc 53 (kcode 9) = some (.getfield 68) := by decide +kernel
theorem k9_56 : lkc 56 (kcode 9) = some (.iload_n 2) := by decide +kernel
theorem k9_57 : lkc 57 (kcode 9) = some (.iconst 0) := by decide +kernel
theorem k9_58 : lkc 58 (kcode 9) = some (.aload_n 1) := by decide +kernel
theorem k9_59 : lkc 59 (kcode 9) = some (.getfield 68) := by decide +kernel
theorem k9_62 : lkc 62 (kcode 9) = some (.iload_n 2) := by decide +kernel
theorem k9_63 : lkc 63 (kcode 9) = some (.iaload) := by decide +kernel
theorem k9_64 : lkc 64 (kcode 9) = some (.iconst 1) := by decide +kernel
theorem k9_65 : lkc 65 (kcode 9) = some (.isub) := by decide +kernel
theorem k9_66 : lkc 66 (kcode 9) = some (.invokestatic 99) := by decide +kernel
theorem k9_69 : lkc 69 (kcode 9) = some (.iastore) := by decide +kernel
theorem k9_70 : lkc 70 (kcode 9) = some (.goto 45) := by decide +kernel
theorem k9_73 : lkc 73 (kcode 9) = some (.aload_n 0) := by decide +kernel
theorem k9_74 : lkc 74 (kcode 9) = some (.dup) := by decide +kernel
theorem k9_75 : lkc 75 (kcode 9) = some (.getfield 109) := by decide +kernel
theorem k9_78 : lkc 78 (kcode 9) = some (.iconst 1) := by decide +kernel
theorem k9_79 : lkc 79 (kcode 9) = some (.iload_n 3) := by decide +kernel
theorem k9_80 : lkc 80 (kcode 9) = some (.ishl) := by decide +kernel
theorem k9_81 : lkc 81 (kcode 9) = some (.ior) := by decide +kernel
theorem k9_82 : lkc 82 (kcode 9) = some (.putfield 109) := by decide +kernel
theorem k9_85 : lkc 85 (kcode 9) = some (.aload_n 0) := by decide +kernel
theorem k9_86 : lkc 86 (kcode 9) = some (.dup) := by decide +kernel
theorem k9_87 : lkc 87 (kcode 9) = some (.getfield 115) := by decide +kernel
theorem k9_90 : lkc 90 (kcode 9) = some (.iconst 1) := by decide +kernel
theorem k9_91 : lkc 91 (kcode 9) = some (.iadd) := by decide +kernel
theorem k9_92 : lkc 92 (kcode 9) = some (.putfield 115) := by decide +kernel
theorem k9_95 : lkc 95 (kcode 9) = some (.aload_n 1) := by decide +kernel
theorem k9_96 : lkc 96 (kcode 9) = some (.getfield 60) := by decide +kernel
theorem k9_99 : lkc 99 (kcode 9) = some (.iload_n 3) := by decide +kernel
theorem k9_100 : lkc 100 (kcode 9) = some (.sipush 999) := by decide +kernel
theorem k9_103 : lkc 103 (kcode 9) = some (.aload_n 1) := by decide +kernel
theorem k9_104 : lkc 104 (kcode 9) = some (.getfield 60) := by decide +kernel
theorem k9_107 : lkc 107 (kcode 9) = some (.iload_n 3) := by decide +kernel
theorem k9_108 : lkc 108 (kcode 9) = some (.iaload) := by decide +kernel
theorem k9_109 : lkc 109 (kcode 9) = some (.iconst 1) := by decide +kernel
theorem k9_110 : lkc 110 (kcode 9) = some (.iadd) := by decide +kernel
theorem k9_111 : lkc 111 (kcode 9) = some (.invokestatic 94) := by decide +kernel
theorem k9_114 : lkc 114 (kcode 9) = some (.iastore) := by decide +kernel
theorem k9_115 : lkc 115 (kcode 9) = some (.iinc 2 1) := by decide +kernel
theorem k9_118 : lkc 118 (kcode 9) = some (.goto (-101)) := by decide +kernel
theorem k9_121 : lkc 121 (kcode 9) = some (.aload_n 1) := by decide +kernel
theorem k9_122 : lkc 122 (kcode 9) = some (.sipush 999) := by decide +kernel
theorem k9_125 : lkc 125 (kcode 9) = some (.aload_n 1) := by decide +kernel
theorem k9_126 : lkc 126 (kcode 9) = some (.getfield 125) := by decide +kernel
theorem k9_129 : lkc 129 (kcode 9) = some (.aload_n 0) := by decide +kernel
theorem k9_130 : lkc 130 (kcode 9) = some (.getfield 115) := by decide +kernel
theorem k9_133 : lkc 133 (kcode 9) = some (.iadd) := by decide +kernel
theorem k9_134 : lkc 134 (kcode 9) = some (.invokestatic 94) := by decide +kernel
theorem k9_137 : lkc 137 (kcode 9) = some (.putfield 125) := by decide +kernel
theorem k9_140 : lkc 140 (kcode 9) = some (.aload_n 1) := by decide +kernel
theorem k9_141 : lkc 141 (kcode 9) = some (.dup) := by decide +kernel
theorem k9_142 : lkc 142 (kcode 9) = some (.getfield 79) := by decide +kernel
theorem k9_145 : lkc 145 (kcode 9) = some (.iconst 1) := by decide +kernel
theorem k9_146 : lkc 146 (kcode 9) = some (.iadd) := by decide +kernel
theorem k9_147 : lkc 147 (kcode 9) = some (.putfield 79) := by decide +kernel
theorem k9_150 : lkc 150 (kcode 9) = some (.return_) := by decide +kernel
/-! forward: a day passes, the class -/
theorem c_lookAt {m : xM} {C S w : Nat} {A B Y : Nat → Nat} (hr : rS m) (hT : xT m C S A B Y) (hw : m.1 89 0 = nI w) (hw2 : w < 65536) : fC 5 [.ref 83, .ref 89] m (fun rv m' => rv = none ∧ (∀ a i, ¬ (65 ≤ a ∧ a ≤ 81) → ¬ (a = 63 ∧ i = 3) → ¬ (a = 83 ∧ i = 3) → m'.1 a i = m.1 a i) ∧ m'.1 83 3 = nI (chp A B S w C) ∧ mX m' C (wsX A B Y w S).1 (wyX C S A B Y w)) := by
  refine fC_of (by decide) (fun d n P H => ?_)
  have hS12 : S ≤ 12 := hT.2.2.2.1
  have hol : opb S w < 65536 := Nat.lt_of_lt_of_le opb_lt (Nat.le_trans (Nat.pow_le_pow_right (by omega) hS12 : (2 : Nat) ^ S ≤ 2 ^ 12) (by decide))
  have ho : ∀ i, i < S → (opb S w).testBit i = !(w.testBit i) := fun i hi => by rw [opb_bit, decide_eq_true hi, Bool.true_and]
  replace H := f_aload_n H k5_0 rfl
  replace H := f_gr H k5_1 (ci := 1) (f := 0) (x := 3) (by decide +kernel) (by decide) (hr 83 0 3 rfl)
  replace H := f_aload_n H k5_4 rfl
  replace H := f_gi H k5_5 (ci := 6) (f := 0) (by decide +kernel) (by decide)
  rw [hw] at H
  obtain ⟨rv, m3, ⟨rfl, e3⟩, h9_8⟩ := f_inv H k5_8 (by decide +kernel) (as := [.int _]) (b := 3) (r := []) (by rfl) (c_openBehind hr hT)
  replace H := h9_8
  rw [← e3] at H
  clear e3
  replace H := f_istore_n H k5_11 (l2 := [(2, .int (nI (opb S w))), (0, .ref 83), (1, .ref 89)]) rfl
  replace H := f_aload_n H k5_12 rfl
  replace H := f_aload_n H k5_13 rfl
  replace H := f_gr H k5_14 (ci := 1) (f := 0) (x := 3) (by decide +kernel) (by decide) (hr 83 0 3 rfl)
  replace H := f_iload_n H k5_17 rfl
  obtain ⟨rv, m3, ⟨rfl, e3⟩, h9_18⟩ := f_inv H k5_18 (by decide +kernel) (as := [.int _]) (b := 3) (r := [.ref 83]) (by rfl) (c_chapelsAmong hr hT ho)
  replace H := h9_18
  rw [← e3] at H
  clear e3
  have hT2 : xT (mI m 83 3 (nI (chp A B S w C))) C S A B Y := xT_f hT (fun a i h1 h2 => mI_ne (by omega))
  have hr2 : rS (mI m 83 3 (nI (chp A B S w C))) := hr
  replace H := f_put_i H k5_21 (ci := 1) (f := 3) (by decide +kernel) (by decide)
  have K1 : ∀ a i, ¬ (a = 83 ∧ i = 3) → (mI m 83 3 (nI (chp A B S w C))).1 a i = m.1 a i := fun a i h => mI_ne h
  have q3 : (mI m 83 3 (nI (chp A B S w C))).1 83 3 = nI (chp A B S w C) := mI_at
  generalize mI m 83 3 (nI (chp A B S w C)) = m4 at *
  have hr := hr2
  replace H := f_aload_n H k5_24 rfl
  replace H := f_gr H k5_25 (ci := 1) (f := 1) (x := 63) (by decide +kernel) (by decide) (hr 83 1 63 rfl)
  replace H := f_aload_n H k5_28 rfl
  replace H := f_gr H k5_29 (ci := 1) (f := 0) (x := 3) (by decide +kernel) (by decide) (hr 83 0 3 rfl)
  replace H := f_iload_n H k5_32 rfl
  obtain ⟨rv, m5, ⟨rfl, f1, f2⟩, h9_33⟩ := f_inv H k5_33 (by decide +kernel) (as := [.ref 3, .int _]) (b := 63) (r := []) (by rfl) (c_measure hr hT2 ho hol)
  replace H := h9_33
  replace H := f_ret H k5_36
  exact ⟨_, _, H, rfl, fun a i h1 h2 h3 => by rw [f1.2 a i h1 h2]; exact K1 a i h3, by rw [f1.2 83 3 (by omega) (by omega)]; exact q3, f2⟩
/-- what a day leaves alone in the class -/
def frP (m m2 : xM) : Prop := ∀ a i, ¬ (a = 47 ∧ i ≠ 4 ∧ i ≠ 5) → a ≠ 54 → ¬ (a = 83 ∧ 4 ≤ i) → ¬ (a = 89 ∧ (i = 1 ∨ i = 2)) → a ≠ 90 → a ≠ 93 → m2.1 a i = m.1 a i
theorem frP_t {m m1 m2 : xM} (h : frP m m1) (g : frP m1 m2) : frP m m2 := fun a i q1 q2 q3 q4 q5 q6 => (g a i q1 q2 q3 q4 q5 q6).trans (h a i q1 q2 q3 q4 q5 q6)
theorem frP_190 {m m2 : xM} (h : fr190 m m2) : frP m m2 := fun a i q1 q2 _ _ _ _ => h a i q1 q2
theorem frP_s {m m2 : xM} {a i : Nat} {v : Int32} (h : frP m m2) (ha : (a = 83 ∧ 4 ≤ i) ∨ (a = 89 ∧ (i = 1 ∨ i = 2)) ∨ a = 90 ∨ a = 93) : frP m (mI m2 a i v) := fun b j q1 q2 q3 q4 q5 q6 => by rw [mI_ne (by omega)]; exact h b j q1 q2 q3 q4 q5 q6
theorem mX_P {m m2 : xM} {C : Nat} {T t : Mt} (hY : mX m C T t) (hC : C ≤ 8) (h : frP m m2) : mX m2 C T t := ⟨by rw [h _ _ (by omega) (by omega) (by omega) (by omega) (by omega) (by omega)]; exact hY.1, fun a b ha hb => by rw [h _ _ (by omega) (by omega) (by omega) (by omega) (by omega) (by omega), h _ _ (by omega) (by omega) (by omega) (by omega) (by omega) (by omega)]; exact hY.2 a b ha hb⟩
theorem gI_x {m : xM} {a i : Nat} {v : Int32} (hI : gI tS tR m) (hs : gseg i (tS a) = (iLo, iHi)) : gI tS tR (mI m a i v) := gI_m2 hI (by rw [hs]; exact i32_rng _)
theorem sx_f : ∀ p : Fin 4, gseg p.val (tS 93) = (iLo, iHi) := by decide +kernel
theorem sx_m : ∀ p : Fin 8, gseg p.val (tS 90) = (iLo, iHi) := by decide +kernel
set_option maxHeartbeats 4000000 in
theorem c_passDay {m : xM} {C S W w k d0 : Nat} {A B h f : Nat → Nat} {T t : Mt} (hI : gI tS tR m) (hC8 : C ≤ 8) (hc0 : m.1 3 0 = nI C) (hW : m.1 3 2 = nI W) (hW4 : W ≤ 4) (h3 : m.1 83 3 = nI (chp A B S w C)) (hY : mX m C T t) (ht : mle 1000000 t) (hh : ∀ p, p < W → m.1 92 p = nI (h p) ∧ h p < C) (hf : ∀ p, p < W → m.1 93 p = nI (f p) ∧ f p ≤ 9) (hmk : ∀ e, e < 8 → ∃ k, m.1 90 e = nI k ∧ k ≤ 999) (hlm : ∀ e, e < 8 → ∃ k, m.1 91 e = nI k ∧ k ≤ 3) (hk : m.1 89 1 = nI k) (hk9 : k ≤ 999) (hd : m.1 89 2 = nI d0) (hd9 : d0 ≤ 1000) : fC 9 [.ref 83, .ref 89] m (fun rv m' => rv = none ∧ frP m m' ∧ (∀ p, p < W → m'.1 93 p = nI (fth (fun p => anyG (chp A B S w C) t 1000000 (h p) C) f p)) ∧ (∀ p, W ≤ p → m'.1 93 p = m.1 93 p) ∧ (∀ e, e < 8 → ∃ k, m'.1 90 e = nI k ∧ k ≤ 999) ∧ m'.1 89 1 = nI (min 999 (k + gcn (fun p => anyG (chp A B S w C) t 1000000 (h p) C) W)) ∧ m'.1 89 2 = nI (d0 + 1) ∧ m'.1 83 6 = nI (gcn (fun p => anyG (chp A B S w C) t 1000000 (h p) C) W)) := by
  refine fC_of (by decide) (fun d n P H => ?_)
  have k999 : (999 : Int32) = nI 999 := rfl
  generalize hg : (fun p => anyG (chp A B S w C) t 1000000 (h p) C) = g
  have hgp : ∀ p, g p = anyG (chp A B S w C) t 1000000 (h p) C := fun p => by rw [← hg]
  have lp : ∀ n p z3 m2, p ≤ W → gI tS tR m2 → frP m m2 → (∀ q, q < p → m2.1 93 q = nI (fth g f q)) → (∀ q, p ≤ q → m2.1 93 q = m.1 93 q) → (∀ e, e < 8 → ∃ k, m2.1 90 e = nI k ∧ k ≤ 999) → m2.1 89 1 = nI k → m2.1 89 2 = nI d0 → m2.1 83 6 = nI (gcn g p) → xF 9 (xw d) P n 17 [(2, .int (nI p)), (3, .int z3), (0, .ref 83), (1, .ref 89)] [] m2 → ∃ rv m', P rv m' ∧ rv = none ∧ frP m m' ∧ (∀ p, p < W → m'.1 93 p = nI (fth g f p)) ∧ (∀ p, W ≤ p → m'.1 93 p = m.1 93 p) ∧ (∀ e, e < 8 → ∃ k, m'.1 90 e = nI k ∧ k ≤ 999) ∧ m'.1 89 1 = nI (min 999 (k + gcn g W)) ∧ m'.1 89 2 = nI (d0 + 1) ∧ m'.1 83 6 = nI (gcn g W) := by
    intro n
    induction n with
    | zero => exact fun p z3 m2 _ _ _ _ _ _ _ _ _ H => (xF_0 H).elim
    | succ n ih =>
      intro p z3 m2 hp hI2 hfr e1 e1b em e2 e3 e4 H
      have hr : rS m2 := hI2.2
      have gle := gcn_le (g := g) p
      have FR : ∀ a i, ¬ (a = 47 ∧ i ≠ 4 ∧ i ≠ 5) → a ≠ 54 → ¬ (a = 83 ∧ 4 ≤ i) → ¬ (a = 89 ∧ (i = 1 ∨ i = 2)) → a ≠ 90 → a ≠ 93 → m2.1 a i = m.1 a i := hfr
      have eW : m2.1 3 2 = nI W := by rw [FR 3 2 (by omega) (by omega) (by omega) (by omega) (by omega) (by omega)]; exact hW
      replace H := f1_iload_n H k9_17 rfl
      replace H := f_aload_n H k9_18 rfl
      replace H := f_gr H k9_19 (ci := 1) (f := 0) (x := 3) (by decide +kernel) (by decide) (hr 83 0 3 rfl)
      replace H := f_gi H k9_22 (ci := 5) (f := 2) (by decide +kernel) (by decide)
      rw [eW] at H
      have Hbr := f_icmp_ge H k9_25 (t := 121) (by decide)
      clear H
      rcases Hbr with ⟨k0, H⟩ | ⟨k0, H⟩
      · rw [nxle (by omega) (by omega)] at k0
        have ep : p = W := by omega
        subst ep
        replace H := f_aload_n H k9_121 rfl
        replace H := f_sipush H k9_122 (v := 999) (by decide)
        replace H := f_aload_n H k9_125 rfl
        replace H := f_gi H k9_126 (ci := 6) (f := 1) (by decide +kernel) (by decide)
        replace H := f_aload_n H k9_129 rfl
        replace H := f_gi H k9_130 (ci := 1) (f := 6) (by decide +kernel) (by decide)
        replace H := f_iadd H k9_133
        rw [e2, e4, r_ad, k999] at H
        obtain ⟨rv, m3, ⟨rfl, e9⟩, h9_134⟩ := f_ins H k9_134 (by decide +kernel) (as := [.int _, .int _]) (r := [.ref 89]) (by rfl) (c_minI (by omega) (by omega))
        replace H := h9_134
        rw [← e9] at H
        clear e9
        replace H := f_put_i H k9_137 (ci := 6) (f := 1) (by decide +kernel) (by decide)
        replace H := f_aload_n H k9_140 rfl
        replace H := f_dup H k9_141
        replace H := f_gi H k9_142 (ci := 6) (f := 2) (by decide +kernel) (by decide)
        replace H := f_iconst H k9_145 (v := 1) (by decide)
        replace H := f_iadd H k9_146
        replace H := f_put_i H k9_147 (ci := 6) (f := 2) (by decide +kernel) (by decide)
        rw [mI_ne (by omega), e3, nI_s] at H
        replace H := f_ret H k9_150
        refine ⟨_, _, H, rfl, frP_s (frP_s hfr (by omega)) (by omega), fun q hq => ?_, fun q hq => ?_, fun e he => ?_, ?_, mI_at, ?_⟩
        · rw [mI_ne (by omega), mI_ne (by omega)]; exact e1 q hq
        · rw [mI_ne (by omega), mI_ne (by omega)]; exact e1b q hq
        · rw [mI_ne (by omega), mI_ne (by omega)]; exact em e he
        · rw [mI_ne (by omega), mI_at]
        · rw [mI_ne (by omega), mI_ne (by omega)]; exact e4
      · rw [nxle (by omega) (by omega)] at k0
        obtain ⟨hh1, hh2⟩ := hh p (by omega)
        obtain ⟨hf1, hf9⟩ := hf p (by omega)
        have efp : m2.1 93 p = nI (f p) := by rw [e1b p (Nat.le_refl _)]; exact hf1
        replace H := f_aload_n H k9_28 rfl
        replace H := f_aload_n H k9_29 rfl
        replace H := f_iload_n H k9_30 rfl
        obtain ⟨rv, m3, ⟨hI3, f190, ho⟩, h9_31⟩ := f_inv H k9_31 (by decide +kernel) (as := [.ref 89, .int _]) (b := 83) (r := []) (by rfl) (c_goalOf hI2 hC8 (by rw [FR 3 0 (by omega) (by omega) (by omega) (by omega) (by omega) (by omega)]; exact hc0) (by rw [FR 83 3 (by omega) (by omega) (by omega) (by omega) (by omega) (by omega)]; exact h3) (mX_P hY hC8 hfr) ht (by omega) (by rw [FR 92 _ (by omega) (by omega) (by omega) (by omega) (by omega) (by omega)]; exact hh1) hh2 (fun e he => em e (by omega)) efp hf9 (fun e he => by rw [FR 91 _ (by omega) (by omega) (by omega) (by omega) (by omega) (by omega)]; exact hlm e (by omega)))
        replace H := h9_31
        have hr : rS m3 := hI3.2
        have hfr3 := frP_t hfr (frP_190 f190)
        have K3 : ∀ a i, a ≠ 47 → a ≠ 54 → m3.1 a i = m2.1 a i := fun a i q1 q2 => f190 a i (fun z => q1 z.1) q2
        rcases ho with ⟨rfl, hno⟩ | ⟨e, he, rfl, hyes⟩
        · have hgf : g p = false := by rw [hgp]; exact anyG_f.mpr hno
          have eg : gcn g (p + 1) = gcn g p := by rw [gcn_s, hgf]; rfl
          replace H := f_istore_n H k9_34 (l2 := [(3, .int _), (2, .int (nI p)), (0, .ref 83), (1, .ref 89)]) rfl
          replace H := f_iload_n H k9_35 rfl
          replace H := f_iconst H k9_36 (v := -1) (by decide)
          replace H := f_icmp_ne_f H k9_37 rfl
          replace H := f_aload_n H k9_40 rfl
          replace H := f_dup H k9_41
          replace H := f_gi H k9_42 (ci := 1) (f := 5) (by decide +kernel) (by decide)
          replace H := f_iconst H k9_45 (v := 1) (by decide)
          replace H := f_iload_n H k9_46 rfl
          replace H := f_ishl H k9_47
          replace H := f_ior H k9_48
          replace H := f_put_i H k9_49 (ci := 1) (f := 5) (by decide +kernel) (by decide)
          obtain ⟨m4, e4m, H⟩ := f_mem H
          have K4 : ∀ a i, ¬ (a = 83 ∧ i = 5) → m4.1 a i = m3.1 a i := fun a i q => by rw [e4m, mI_ne q]
          have hI4 : gI tS tR m4 := by rw [e4m]; exact gI_x hI3 (by decide +kernel)
          have hfr4 : frP m m4 := by rw [e4m]; exact frP_s hfr3 (by omega)
          clear e4m
          have hr : rS m4 := hI4.2
          replace H := f_aload_n H k9_52 rfl
          replace H := f_gr H k9_53 (ci := 6) (f := 6) (x := 93) (by decide +kernel) (by decide) (hr 89 6 93 rfl)
          replace H := f_iload_n H k9_56 rfl
          replace H := f_iconst H k9_57 (v := 0) (by decide)
          replace H := f_aload_n H k9_58 rfl
          replace H := f_gr H k9_59 (ci := 6) (f := 6) (x := 93) (by decide +kernel) (by decide) (hr 89 6 93 rfl)
          replace H := f_iload_n H k9_62 rfl
          have Hob := f_iald H k9_63 (c := 4) (by decide)
          clear H
          obtain ⟨hb63, H⟩ := Hob
          replace H := f_iconst H k9_64 (v := 1) (by decide)
          replace H := f_isub H k9_65
          rw [nI_clamp (by omega), K4 _ _ (by omega), K3 _ _ (by omega) (by omega), efp] at H
          obtain ⟨rv, m5, ⟨rfl, e9⟩, h9_66⟩ := f_ins H k9_66 (by decide +kernel) (as := [.int _, .int _]) (r := [.int _, .ref 93]) (by rfl) (c_max0 (by omega))
          replace H := h9_66
          rw [← e9] at H
          clear e9
          have Hob := f_iast H k9_69 (c := 4) (by decide)
          clear H
          obtain ⟨hb69, H⟩ := Hob
          replace H := f_goto H k9_70 (t := 115) (by decide)
          replace H := f_iinc H k9_115 rfl (l2 := [(2, .int (nI p + 1)), (3, .int (-1)), (0, .ref 83), (1, .ref 89)]) rfl
          replace H := f_goto H k9_118 (t := 17) (by decide)
          rw [nI_clamp (by omega), nI_s] at H
          refine ih (p + 1) _ (mI m4 93 p (nI (f p - 1))) (by omega) (gI_x hI4 (sx_f ⟨p, by omega⟩)) (frP_s hfr4 (by omega)) (fun q hq => ?_) (fun q hq => ?_) (fun e he => ?_) ?_ ?_ ?_ H
          · by_cases c : q = p
            · subst c
              rw [mI_at]
              unfold fth
              rw [hgf]
              rfl
            · rw [mI_ne (by omega), K4 _ _ (by omega), K3 _ _ (by omega) (by omega)]; exact e1 q (by omega)
          · rw [mI_ne (by omega), K4 _ _ (by omega), K3 _ _ (by omega) (by omega)]; exact e1b q (by omega)
          · rw [mI_ne (by omega), K4 _ _ (by omega), K3 _ _ (by omega) (by omega)]; exact em e he
          · rw [mI_ne (by omega), K4 _ _ (by omega), K3 _ _ (by omega) (by omega)]; exact e2
          · rw [mI_ne (by omega), K4 _ _ (by omega), K3 _ _ (by omega) (by omega)]; exact e3
          · rw [mI_ne (by omega), K4 _ _ (by omega), K3 _ _ (by omega) (by omega), eg]; exact e4
        · have hgt : g p = true := by rw [hgp]; exact anyG_t.mpr ⟨e, he, hyes⟩
          have eg : gcn g (p + 1) = gcn g p + 1 := by rw [gcn_s, hgt]; rfl
          obtain ⟨mk, emk, hmk9⟩ := em e (by omega)
          replace H := f_istore_n H k9_34 (l2 := [(3, .int _), (2, .int (nI p)), (0, .ref 83), (1, .ref 89)]) rfl
          replace H := f_iload_n H k9_35 rfl
          replace H := f_iconst H k9_36 (v := -1) (by decide)
          replace H := f_icmp_ne_t H k9_37 (nI_n1 (N := 8) (by omega) (by decide)) (t := 73) (by decide)
          replace H := f_aload_n H k9_73 rfl
          replace H := f_dup H k9_74
          replace H := f_gi H k9_75 (ci := 1) (f := 4) (by decide +kernel) (by decide)
          replace H := f_iconst H k9_78 (v := 1) (by decide)
          replace H := f_iload_n H k9_79 rfl
          replace H := f_ishl H k9_80
          replace H := f_ior H k9_81
          replace H := f_put_i H k9_82 (ci := 1) (f := 4) (by decide +kernel) (by decide)
          replace H := f_aload_n H k9_85 rfl
          replace H := f_dup H k9_86
          replace H := f_gi H k9_87 (ci := 1) (f := 6) (by decide +kernel) (by decide)
          replace H := f_iconst H k9_90 (v := 1) (by decide)
          replace H := f_iadd H k9_91
          replace H := f_put_i H k9_92 (ci := 1) (f := 6) (by decide +kernel) (by decide)
          rw [mI_ne (by omega), K3 83 6 (by omega) (by omega), e4, nI_s] at H
          obtain ⟨m4, e4m, H⟩ := f_mem H
          have q6 : m4.1 83 6 = nI (gcn g p + 1) := by rw [e4m, mI_at]
          have K4 : ∀ a i, ¬ (a = 83 ∧ (i = 4 ∨ i = 6)) → m4.1 a i = m3.1 a i := fun a i q => by rw [e4m, mI_ne (by omega), mI_ne (by omega)]
          have hI4 : gI tS tR m4 := by rw [e4m]; exact gI_x (gI_x hI3 (by decide +kernel)) (by decide +kernel)
          have hfr4 : frP m m4 := by rw [e4m]; exact frP_s (frP_s hfr3 (by omega)) (by omega)
          clear e4m
          have hr : rS m4 := hI4.2
          replace H := f_aload_n H k9_95 rfl
          replace H := f_gr H k9_96 (ci := 6) (f := 3) (x := 90) (by decide +kernel) (by decide) (hr 89 3 90 rfl)
          replace H := f_iload_n H k9_99 rfl
          replace H := f_sipush H k9_100 (v := 999) (by decide)
          replace H := f_aload_n H k9_103 rfl
          replace H := f_gr H k9_104 (ci := 6) (f := 3) (x := 90) (by decide +kernel) (by decide) (hr 89 3 90 rfl)
          replace H := f_iload_n H k9_107 rfl
          have Hob := f_iald H k9_108 (c := 8) (by decide)
          clear H
          obtain ⟨hb108, H⟩ := Hob
          replace H := f_iconst H k9_109 (v := 1) (by decide)
          replace H := f_iadd H k9_110
          rw [nI_clamp (by omega), K4 _ _ (by omega), K3 _ _ (by omega) (by omega), emk, nI_s, k999] at H
          obtain ⟨rv, m5, ⟨rfl, e9⟩, h9_111⟩ := f_ins H k9_111 (by decide +kernel) (as := [.int _, .int _]) (r := [.int _, .ref 90]) (by rfl) (c_minI (by omega) (by omega))
          replace H := h9_111
          rw [← e9] at H
          clear e9
          have Hob := f_iast H k9_114 (c := 8) (by decide)
          clear H
          obtain ⟨hb114, H⟩ := Hob
          replace H := f_iinc H k9_115 rfl (l2 := [(2, .int (nI p + 1)), (3, .int (nI e)), (0, .ref 83), (1, .ref 89)]) rfl
          replace H := f_goto H k9_118 (t := 17) (by decide)
          rw [nI_clamp (by omega), nI_s] at H
          refine ih (p + 1) _ (mI m4 90 e (nI (min 999 (mk + 1)))) (by omega) (gI_x hI4 (sx_m ⟨e, by omega⟩)) (frP_s hfr4 (by omega)) (fun q hq => ?_) (fun q hq => ?_) (fun e2 he2 => ?_) ?_ ?_ ?_ (f_ext H (lE_cons rfl (lE_cons rfl (lE_cons rfl (lE_cons rfl lE_nil)))) rfl rfl)
          · by_cases c : q = p
            · subst c
              rw [mI_ne (by omega), K4 _ _ (by omega), K3 _ _ (by omega) (by omega), efp]
              unfold fth
              rw [hgt]
              rfl
            · rw [mI_ne (by omega), K4 _ _ (by omega), K3 _ _ (by omega) (by omega)]; exact e1 q (by omega)
          · rw [mI_ne (by omega), K4 _ _ (by omega), K3 _ _ (by omega) (by omega)]; exact e1b q (by omega)
          · by_cases c : e2 = e
            · subst c
              rw [mI_at]
              exact ⟨_, rfl, by omega⟩
            · rw [mI_ne (by omega), K4 _ _ (by omega), K3 _ _ (by omega) (by omega)]; exact em e2 he2
          · rw [mI_ne (by omega), K4 _ _ (by omega), K3 _ _ (by omega) (by omega)]; exact e2
          · rw [mI_ne (by omega), K4 _ _ (by omega), K3 _ _ (by omega) (by omega)]; exact e3
          · rw [mI_ne (by omega), q6, eg]
  have hr : rS m := hI.2
  replace H := f_aload_n H k9_0 rfl
  replace H := f_iconst H k9_1 (v := 0) (by decide)
  replace H := f_put_i H k9_2 (ci := 1) (f := 4) (by decide +kernel) (by decide)
  replace H := f_aload_n H k9_5 rfl
  replace H := f_iconst H k9_6 (v := 0) (by decide)
  replace H := f_put_i H k9_7 (ci := 1) (f := 5) (by decide +kernel) (by decide)
  replace H := f_aload_n H k9_10 rfl
  replace H := f_iconst H k9_11 (v := 0) (by decide)
  replace H := f_put_i H k9_12 (ci := 1) (f := 6) (by decide +kernel) (by decide)
  replace H := f_iconst H k9_15 (v := 0) (by decide)
  replace H := f_istore_n H k9_16 (l2 := [(2, .int 0), (0, .ref 83), (1, .ref 89)]) rfl
  replace H := f_ext H (l' := [(2, .int 0), (3, .int 0), (0, .ref 83), (1, .ref 89)]) (lE_cons rfl (lE_cons rfl (lE_cons rfl (lE_nil)))) rfl rfl
  obtain ⟨m2, e2m, H⟩ := f_mem H
  have K2 : ∀ a i, ¬ (a = 83 ∧ 4 ≤ i) → m2.1 a i = m.1 a i := fun a i q => by rw [e2m, mI_ne (by omega), mI_ne (by omega), mI_ne (by omega)]
  have q6 : m2.1 83 6 = 0 := by rw [e2m, mI_at]
  have hI2 : gI tS tR m2 := by rw [e2m]; exact gI_x (gI_x (gI_x hI (by decide +kernel)) (by decide +kernel)) (by decide +kernel)
  clear e2m
  exact lp n 0 0 m2 (Nat.zero_le _) hI2 (fun a i _ _ q _ _ _ => K2 a i q) (fun q hq => absurd hq (Nat.not_lt_zero _)) (fun q _ => K2 _ _ (by omega)) (fun e he => by rw [K2 _ _ (by omega)]; exact hmk e he) (by rw [K2 _ _ (by omega)]; exact hk) (by rw [K2 _ _ (by omega)]; exact hd) q6 H
