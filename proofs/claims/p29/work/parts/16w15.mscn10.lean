theorem k219_0 : lkc 0 (kcode 219) = some (.aload_n 0) := by decide +kernel
theorem k219_1 : lkc 1 (kcode 219) = some (.iconst 0) := by decide +kernel
theorem k219_2 : lkc 2 (kcode 219) = some (.putfield 90) := by decide +kernel
theorem k219_5 : lkc 5 (kcode 219) = some (.aload_n 0) := by decide +kernel
theorem k219_6 : lkc 6 (kcode 219) = some (.getfield 283) := by decide +kernel
theorem k219_9 : lkc 9 (kcode 219) = some (.ifCond .eq 30) := by decide +kernel
theorem k219_12 : lkc 12 (kcode 219) = some (.iload_n 1) := by decide +kernel
theorem k219_13 : lkc 13 (kcode 219) = some (.i2l) := by decide +kernel
theorem k219_14 : lkc 14 (kcode 219) = some (.lconst 1) := by decide +kernel
theorem k219_15 : lkc 15 (kcode 219) = some (.ldc2_w 387) := by decide +kernel
theorem k219_18 : lkc 18 (kcode 219) = some (.invokestatic 211) := by decide +kernel
theorem k219_21 : lkc 21 (kcode 219) = some (.ifCond .eq 18) := by decide +kernel
theorem k219_24 : lkc 24 (kcode 219) = some (.aload_n 0) := by decide +kernel
theorem k219_25 : lkc 25 (kcode 219) = some (.getfield 58) := by decide +kernel
theorem k219_28 : lkc 28 (kcode 219) = some (.bipush 26) := by decide +kernel
theorem k219_30 : lkc 30 (kcode 219) = some (.iaload) := by decide +kernel
theorem k219_31 : lkc 31 (kcode 219) = some (.iload_n 1) := by decide +kernel
theorem k219_32 : lkc 32 (kcode 219) = some (.iadd) := by decide +kernel
theorem k219_33 : lkc 33 (kcode 219) = some (.sipush 999) := by decide +kernel
theorem k219_36 : lkc 36 (kcode 219) = some (.if_icmp .le 5) := by decide +kernel
theorem k219_39 : lkc 39 (kcode 219) = some (.iconst (-1)) := by decide +kernel
theorem k219_40 : lkc 40 (kcode 219) = some (.ireturn) := by decide +kernel
theorem k219_41 : lkc 41 (kcode 219) = some (.aload_n 0) := by decide +kernel
theorem k219_42 : lkc 42 (kcode 219) = some (.lload_n 2) := by decide +kernel
theorem k219_43 : lkc 43 (kcode 219) = some (.putfield 379) := by decide +kernel
theorem k219_46 : lkc 46 (kcode 219) = some (.iconst 0) := by decide +kernel
theorem k219_47 : lkc 47 (kcode 219) = some (.istore 4) := by decide +kernel
theorem k219_49 : lkc 49 (kcode 219) = some (.iload 4) := by decide +kernel
theorem k219_51 : lkc 51 (kcode 219) = some (.iload_n 1) := by decide +kernel
theorem k219_52 : lkc 52 (kcode 219) = some (.if_icmp .ge 91) := by decide +kernel
theorem k219_55 : lkc 55 (kcode 219) = some (.aload_n 0) := by decide +kernel
theorem k219_56 : lkc 56 (kcode 219) = some (.invokevirtual 367) := by decide +kernel
theorem k219_59 : lkc 59 (kcode 219) = some (.aload_n 0) := by decide +kernel
theorem k219_60 : lkc 60 (kcode 219) = some (.bipush 10) := by decide +kernel
theorem k219_62 : lkc 62 (kcode 219) = some (.invokevirtual 389) := by decide +kernel
theorem k219_65 : lkc 65 (kcode 219) = some (.aload_n 0) := by decide +kernel
theorem k219_66 : lkc 66 (kcode 219) = some (.getfield 68) := by decide +kernel
theorem k219_69 : lkc 69 (kcode 219) = some (.if_icmp .ge 26) := by decide +kernel
theorem k219_72 : lkc 72 (kcode 219) = some (.aload_n 0) := by decide +kernel
theorem k219_73 : lkc 73 (kcode 219) = some (.getfield 58) := by decide +kernel
theorem k219_76 : lkc 76 (kcode 219) = some (.bipush 24) := by decide +kernel
theorem k219_78 : lkc 78 (kcode 219) = some (.dup2) := by decide +kernel
theorem k219_79 : lkc 79 (kcode 219) = some (.iaload) := by decide +kernel
theorem k219_80 : lkc 80 (kcode 219) = some (.iconst 1) := by decide +kernel
theorem k219_81 : lkc 81 (kcode 219) = some (.aload_n 0) := by decide +kernel
theorem k219_82 : lkc 82 (kcode 219) = some (.aload_n 0) := by decide +kernel
theorem k219_83 : lkc 83 (kcode 219) = some (.getfield 283) := by decide +kernel
theorem k219_86 : lkc 86 (kcode 219) = some (.invokevirtual 389) := by decide +kernel
theorem k219_89 : lkc 89 (kcode 219) = some (.ishl) := by decide +kernel
theorem k219_90 : lkc 90 (kcode 219) = some (.ixor) := by decide +kernel
theorem k219_91 : lkc 91 (kcode 219) = some (.iastore) := by decide +kernel
theorem k219_92 : lkc 92 (kcode 219) = some (.goto 35) := by decide +kernel
theorem k219_95 : lkc 95 (kcode 219) = some (.aload_n 0) := by decide +kernel
theorem k219_96 : lkc 96 (kcode 219) = some (.aload_n 0) := by decide +kernel
theorem k219_97 : lkc 97 (kcode 219) = some (.getfield 286) := by decide +kernel
theorem k219_100 : lkc 100 (kcode 219) = some (.invokevirtual 389) := by decide +kernel
theorem k219_103 : lkc 103 (kcode 219) = some (.istore 5) := by decide +kernel
theorem k219_105 : lkc 105 (kcode 219) = some (.aload_n 0) := by decide +kernel
theorem k219_106 : lkc 106 (kcode 219) = some (.getfield 58) := by decide +kernel
theorem k219_109 : lkc 109 (kcode 219) = some (.bipush 16) := by decide +kernel
theorem k219_111 : lkc 111 (kcode 219) = some (.iconst 2) := by decide +kernel
theorem k219_112 : lkc 112 (kcode 219) = some (.iload 5) := by decide +kernel
theorem k219_114 : lkc 114 (kcode 219) = some (.imul) := by decide +kernel
theorem k219_115 : lkc 115 (kcode 219) = some (.iadd) := by decide +kernel
theorem k219_116 : lkc 116 (kcode 219) = some (.iconst 0) := by decide +kernel
theorem k219_117 : lkc 117 (kcode 219) = some (.iadd) := by decide +kernel
theorem k219_118 : lkc 118 (kcode 219) = some (.aload_n 0) := by decide +kernel
theorem k219_119 : lkc 119 (kcode 219) = some (.aload_n 0) := by decide +kernel
theorem k219_120 : lkc 120 (kcode 219) = some (.getfield 280) := by decide +kernel
theorem k219_123 : lkc 123 (kcode 219) = some (.invokevirtual 389) := by decide +kernel
theorem k219_126 : lkc 126 (kcode 219) = some (.iastore) := by decide +kernel
theorem k219_127 : lkc 127 (kcode 219) = some (.aload_n 0) := by decide +kernel
theorem k219_128 : lkc 128 (kcode 219) = some (.aload_n 0) := by decide +kernel
theorem k219_129 : lkc 129 (kcode 219) = some (.getfield 58) := by decide +kernel
theorem k219_132 : lkc 132 (kcode 219) = some (.invokevirtual 370) := by decide +kernel
theorem k219_135 : lkc 135 (kcode 219) = some (.istore 5) := by decide +kernel
theorem k219_137 : lkc 137 (kcode 219) = some (.iinc 4 1) := by decide +kernel
theorem k219_140 : lkc 140 (kcode 219) = some (.goto (-91)) := by decide +kernel
theorem k219_143 : lkc 143 (kcode 219) = some (.aload_n 0) := by decide +kernel
theorem k219_144 : lkc 144 (kcode 219) = some (.getfield 58) := by decide +kernel
theorem k219_147 : lkc 147 (kcode 219) = some (.bipush 26) := by decide +kernel
theorem k219_149 : lkc 149 (kcode 219) = some (.iaload) := by decide +kernel
theorem k219_150 : lkc 150 (kcode 219) = some (.ireturn) := by decide +kernel
/-! forward: years, the reference -/
def frV (m m2 : xM) : Prop := ∀ a i, (a < 314 ∨ a = 315 ∨ a = 320 ∨ a = 322 ∨ a = 324 ∨ a = 325 ∨ a = 332 ∨ a = 333 ∨ (a = 314 ∧ ¬ (8 ≤ i ∧ i < 18) ∧ i ≠ 0 ∧ i ≠ 39 ∧ i ≠ 40 ∧ i ≠ 42)) → m2.1 a i = m.1 a i
theorem frV_t {m m1 m2 : xM} (h : frV m m1) (g : frV m1 m2) : frV m m2 := fun a i q => (g a i q).trans (h a i q)
theorem frV_D {m m2 : xM} (h : frD m m2) : frV m m2 := fun a i q => h a i (by omega)
theorem frV_k {h : Nat} {m mk : xM} (q : rmO h m mk) : frV m mk := fun a i z => rmO_f q (by omega) (by omega)
theorem frV_s {m m2 : xM} {a i : Nat} {v : Int32} (h : frV m m2) (ha : (a = 314 ∧ i = 0) ∨ a = 326) : frV m (mI m2 a i v) := fun b j q => by rw [mI_ne (by omega)]; exact h b j q
theorem mT_V {m m2 : xM} {C S : Nat} {A B Y : Nat → Nat} (hT : mT m C S A B Y) (h : frV m m2) : mT m2 C S A B Y := mT_f hT (fun i => ⟨⟨h _ _ (by omega), h _ _ (by omega)⟩, h _ _ (by omega)⟩)
theorem jM_26 {x : xM} {i : Nat} {v : Int32} (hi : i < 208) (hj : jM x) : jM (mI x 326 i v) := jM_st (c := (0, [], [], [], [(326, 0, 208)])) (by decide) x _ (fun b j hw => mI_ne (fun z => (wm1_c.mp hw).1 ⟨z.1.symm, Nat.zero_le _, by show j < 208; omega⟩)) hj
theorem sg_16 {p : Nat} (h : p < 4) : gseg (16 + 2 * p) (tS 326) = (0, 7) := by
  rcases (by omega : p = 0 ∨ p = 1 ∨ p = 2 ∨ p = 3) with rfl | rfl | rfl | rfl <;> decide +kernel
theorem gI_mJ {m : xM} {a i : Nat} {v : Int64} (h : gI tS tR m) : gI tS tR (mJ m a i v) := ⟨h.1, h.2⟩
def yrM (m : xM) (W : Nat) (r : Sc × Int64 × List Sc) : Prop := SM m 326 0 W r.1 ∧ RM m W r.2.2
set_option maxHeartbeats 4000000 in
theorem c_myears {m : xM} {C S W b : Nat} {A B Y : Nat → Nat} {s : Sc} {ks : List Sc} {z : Int32} {sd : Int64} (hI : gI tS tR m) (hj : jM m) (hT : mT m C S A B Y) (hCS : C = 0 ↔ S = 0) (hW : m.1 314 27 = nI W) (hW4 : W ≤ 4) (hW0 : 0 < C → 0 < W) (hb : m.1 314 35 = nI b) (hb9 : b ≤ 9) (hv : scV C S W s) (hs : SM m 326 0 W s) (hR : RM m W ks) : fC 219 [.ref 314, .int z, .long sd] m (fun rv m' => (¬ (0 < C ∧ ∃ n, 1 ≤ n ∧ n ≤ 30 ∧ z = nI n ∧ s.2.2.1 + n ≤ 999) ∧ rv = some (.int (-1)) ∧ m' = mI m 314 0 0) ∨ (0 < C ∧ ∃ n, 1 ≤ n ∧ n ≤ 30 ∧ z = nI n ∧ s.2.2.1 + n ≤ 999 ∧ rv = some (.int (nI (s.2.2.1 + n))) ∧ frV m m' ∧ yrM m' W (yrN C S W b A B Y n s sd ks))) := by
  refine fC_of (by decide) (fun d n P H => ?_)
  have c26 : (26 : Int32).toNatClampNeg = 26 := by decide
  have c24 : (24 : Int32).toNatClampNeg = 24 := by decide
  have hC8 : C ≤ 8 := hT.2.2.1
  have hS12 : S ≤ 12 := hT.2.2.2.1
  replace H := f_aload_n H k219_0 rfl
  replace H := f_iconst H k219_1 (v := 0) (by decide)
  replace H := f_put_i H k219_2 (ci := 12) (f := 0) (by decide +kernel) (by decide)
  have hI1 : gI tS tR (mI m 314 0 0) := gI_m2 hI (by decide +kernel)
  have hj1 : jM (mI m 314 0 0) := jM_c (by decide) hj
  have f1 : frV m (mI m 314 0 0) := frV_s (fun _ _ _ => rfl) (by omega)
  have hs1 : SM (mI m 314 0 0) 326 0 W s := SM_f hW4 hs (fun i _ => mI_ne (by omega))
  have hR1 : RM (mI m 314 0 0) W ks := RM_f hW4 hR (fun a i q => mI_ne (by omega))
  generalize mI m 314 0 0 = m1 at *
  have hr : rS m1 := hI1.2
  have neg : ∀ n, ¬ (0 < C ∧ ∃ n, 1 ≤ n ∧ n ≤ 30 ∧ z = nI n ∧ s.2.2.1 + n ≤ 999) → xF 219 (xw d) P n 39 [(0, .ref 314), (1, .int z), (2, .long sd)] [] m1 → ∃ rv m', P rv m' ∧ ((¬ (0 < C ∧ ∃ n, 1 ≤ n ∧ n ≤ 30 ∧ z = nI n ∧ s.2.2.1 + n ≤ 999) ∧ rv = some (.int (-1)) ∧ m' = m1) ∨ (0 < C ∧ ∃ n, 1 ≤ n ∧ n ≤ 30 ∧ z = nI n ∧ s.2.2.1 + n ≤ 999 ∧ rv = some (.int (nI (s.2.2.1 + n))) ∧ frV m m' ∧ yrM m' W (yrN C S W b A B Y n s sd ks))) := by
    intro n hn H
    replace H := f_iconst H k219_39 (v := -1) (by decide)
    replace H := f_iret H k219_40
    exact ⟨_, _, H, Or.inl ⟨hn, rfl, rfl⟩⟩
  -- the rounds
  have lp : ∀ n N i l5 (x : Int64) (s2 : Sc) (ks2 : List Sc) m2, 0 < C → 1 ≤ N → N ≤ 30 → z = nI N → i ≤ N → s.2.2.1 + N ≤ 999 → s2.2.2.1 = s.2.2.1 + i → scV C S W s2 → gI tS tR m2 → jM m2 → frV m m2 → yrM m2 W (s2, x, ks2) → m2.2.1 314 43 = x → yrN C S W b A B Y (N - i) s2 x ks2 = yrN C S W b A B Y N s sd ks → xF 219 (xw d) P n 49 [(4, .int (nI i)), (5, .int l5), (0, .ref 314), (1, .int (nI N)), (2, .long sd)] [] m2 → ∃ rv m', P rv m' ∧ ((¬ (0 < C ∧ ∃ n, 1 ≤ n ∧ n ≤ 30 ∧ z = nI n ∧ s.2.2.1 + n ≤ 999) ∧ rv = some (.int (-1)) ∧ m' = m1) ∨ (0 < C ∧ ∃ n, 1 ≤ n ∧ n ≤ 30 ∧ z = nI n ∧ s.2.2.1 + n ≤ 999 ∧ rv = some (.int (nI (s.2.2.1 + n))) ∧ frV m m' ∧ yrM m' W (yrN C S W b A B Y n s sd ks))) := by
    intro n
    induction n with
    | zero => exact fun N i l5 x s2 ks2 m2 _ _ _ _ _ _ _ _ _ _ _ _ _ _ H => (xF_0 H).elim
    | succ n ih =>
      intro N i l5 x s2 ks2 m2 hC0 hN1 hN30 hz hi hsN hd2 hv2 hI2 hj2 hf hy hx hq H
      have hr : rS m2 := hI2.2
      obtain ⟨hs2, hR2⟩ := hy
      replace H := f1_iload H k219_49 rfl
      replace H := f_iload_n H k219_51 rfl
      have Hbr := f_icmp_ge H k219_52 (t := 143) (by decide)
      clear H
      rcases Hbr with ⟨k0, H⟩ | ⟨k0, H⟩
      · rw [nxle (by omega) (by omega)] at k0
        have ei : i = N := by omega
        subst ei
        have e3 : m2.1 326 26 = nI s2.2.2.1 := by have := hs2.2.2.1; rwa [Nat.zero_add] at this
        replace H := f_aload_n H k219_143 rfl
        replace H := f_gr H k219_144 (ci := 12) (f := 32) (x := 326) (by decide +kernel) (by decide) (hr 314 32 326 rfl)
        replace H := f_bipush H k219_147 (v := 26) (by decide)
        have Hob := f_iald H k219_149 (c := 208) (by decide)
        clear H
        obtain ⟨hb149, H⟩ := Hob
        rw [c26, e3, hd2] at H
        replace H := f_iret H k219_150
        refine ⟨_, _, H, Or.inr ⟨hC0, i, hN1, hN30, hz, hsN, rfl, hf, ?_⟩⟩
        rw [← hq, Nat.sub_self]
        exact ⟨hs2, hR2⟩
      · rw [nxle (by omega) (by omega)] at k0
        replace H := f_aload_n H k219_55 rfl
        obtain ⟨rv, m3, ⟨⟨rfl, hk⟩, hc⟩, h9_56⟩ := f_inv H k219_56 (by decide +kernel) (as := []) (b := 314) (r := []) (by rfl) (fC_two (c_remember hr hR2.1 hR2.2.1) (fC_vC rem_ok hI2 hj2 ⟨aR_a 314, trivial⟩ gF_nil))
        replace H := h9_56
        have hI3 := hc.1
        have hj3 : jM m3 := jM_st (c := (0, [], [], [], remc.2.2.2.2)) (by decide) m2 m3 hc.2.1 hj2
        clear hc
        have hkp : rmO ks2.length m2 m3 := hk
        have hr : rS m3 := hI3.2
        have hR3 := RM_psh hW4 hR2 hs2 hkp
        have hs3 : SM m3 326 0 W s2 := SM_f hW4 hs2 (fun i _ => rmO_f hkp (by omega) (by omega))
        have hf3 := frV_t hf (frV_k hkp)
        have hT3 := mT_V hT hf3
        have b3 : m3.1 314 35 = nI b := by rw [hf3 314 35 (by omega)]; exact hb
        have hx3 : m3.2.1 314 43 = x := by rw [hkp.1]; exact hx
        clear hk
        have hS0 : 0 < S := by
          have : S ≠ 0 := fun q => by have := hCS.mpr q; omega
          omega
        have hW1 := hW0 hC0
        have w3 : m3.1 314 27 = nI W := by rw [hf3 314 27 (by omega)]; exact hW
        have t1 := hT3.1
        have t2 := hT3.2.1
        have day : ∀ l5 (x9 : Int64) (s9 : Sc) m4, yrS C S W b s2 x = (s9, x9) → gI tS tR m4 → jM m4 → frV m m4 → SM m4 326 0 W s9 → RM m4 W (psh ks2 s2) → m4.2.1 314 43 = x9 → xF 219 (xw d) P n 127 [(4, .int (nI i)), (5, .int l5), (0, .ref 314), (1, .int (nI N)), (2, .long sd)] [] m4 → ∃ rv m', P rv m' ∧ ((¬ (0 < C ∧ ∃ n, 1 ≤ n ∧ n ≤ 30 ∧ z = nI n ∧ s.2.2.1 + n ≤ 999) ∧ rv = some (.int (-1)) ∧ m' = m1) ∨ (0 < C ∧ ∃ n, 1 ≤ n ∧ n ≤ 30 ∧ z = nI n ∧ s.2.2.1 + n ≤ 999 ∧ rv = some (.int (nI (s.2.2.1 + n))) ∧ frV m m' ∧ yrM m' W (yrN C S W b A B Y n s sd ks))) := by
          intro l5 x9 s9 m4 es hI4 hj4 hf4 hs4 hR4 hx4 H
          have hr : rS m4 := hI4.2
          have hvd := yrS_V (b := b) (x := x) hv2 hC0 hS0
          rw [es] at hvd
          obtain ⟨hv9, hd9⟩ := hvd
          replace hd9 : s9.2.2.1 = s2.2.2.1 := hd9
          replace hv9 : scV C S W s9 := hv9
          have hW9 : m4.1 314 27 = nI W := by rw [hf4 314 27 (by omega)]; exact hW
          obtain ⟨y1, y2, y3, y4, y5, y6, y7, y8, y9, y10, y11, y12⟩ := mS_of hS12 hW9 hW4 hv9 hs4
          replace H := f_aload_n H k219_127 rfl
          replace H := f_aload_n H k219_128 rfl
          replace H := f_gr H k219_129 (ci := 12) (f := 32) (x := 326) (by decide +kernel) (by decide) (hr 314 32 326 rfl)
          obtain ⟨rv, m5, ⟨⟨⟨rfl, hl⟩, hx5⟩, hc⟩, h9_132⟩ := f_inv H k219_132 (by decide +kernel) (as := [.ref 326]) (b := 314) (r := []) (by rfl) (fC_two (fC_two (c_goDay hI4 hj4 (mT_V hT hf4) y1 y2 y3 y4 y11 y12 y5 y6 y7 y8 y9 y10) (fC_lf lfL_ok (by decide))) (fC_vC r68 hI4 hj4 ⟨aR_a 314, aR_a 326, trivial⟩ gF_nil))
          replace H := h9_132
          have hI5 := hc.1
          have hj5 : jM m5 := jM_st (c := (0, [], [], [], r68c.2.2.2.2)) (by decide) m4 m5 hc.2.1 hj4
          clear hc
          have hs5 := SM_day (A := A) (B := B) (Y := Y) (C := C) (S := S) hW4 hs4 hl
          have hR5 := RM_f hW4 hR4 (m2 := m5) (fun a i z1 => hl.1 a i (by omega))
          have hf5 := frV_t hf4 (frV_D hl.1)
          replace H := f_istore H k219_135 (l2 := [(5, .int _), (4, .int (nI i)), (0, .ref 314), (1, .int (nI N)), (2, .long sd)]) rfl
          replace H := f_iinc H k219_137 rfl (l2 := [(4, .int (nI i + 1)), (5, .int _), (0, .ref 314), (1, .int (nI N)), (2, .long sd)]) rfl
          replace H := f_goto H k219_140 (t := 49) (by decide)
          rw [nI_s] at H
          refine ih N (i + 1) _ x9 (dayS C S W A B Y s9) (psh ks2 s2) m5 hC0 hN1 hN30 hz (by omega) hsN (by show s9.2.2.1 + 1 = s.2.2.1 + (i + 1); omega) (dayS_V hv9 (by omega)) hI5 hj5 hf5 ⟨hs5, hR5⟩ (by rw [hx5]; exact hx4) ?_ (f_ext H (lE_cons rfl (lE_cons rfl (lE_cons rfl (lE_cons rfl (lE_cons rfl lE_nil))))) rfl rfl)
          rw [← hq, show N - i = (N - (i + 1)) + 1 by omega]
          show _ = yrN C S W b A B Y (N - (i + 1)) (dayS C S W A B Y (yrS C S W b s2 x).1) (yrS C S W b s2 x).2 (psh ks2 s2)
          rw [es]
        replace H := f_aload_n H k219_59 rfl
        replace H := f_bipush H k219_60 (v := 10) (by decide)
        rw [show (10 : Int32) = nI 10 from rfl] at H
        obtain ⟨rv, m4, ⟨rfl, e3⟩, h9_62⟩ := f_inv H k219_62 (by decide +kernel) (as := [.int _]) (b := 314) (r := []) (by rfl) (c_mdraw hx3 (by omega) (by omega))
        replace H := h9_62
        subst e3
        have hdr : drN (shf x) 10 < 10 := Nat.mod_lt _ (by omega)
        have o4 : ∀ a i, (mJ m3 314 43 (shf x)).1 a i = m3.1 a i := fun _ _ => rfl
        have hx4 : (mJ m3 314 43 (shf x)).2.1 314 43 = shf x := mJ_at
        have hI4 : gI tS tR (mJ m3 314 43 (shf x)) := gI_mJ hI3
        have hj4 : jM (mJ m3 314 43 (shf x)) := jM_st (c := (0, [], [], [], [])) (by decide) m3 _ (fun _ _ _ => rfl) hj3
        generalize mJ m3 314 43 (shf x) = m4 at *
        have hr : rS m4 := hI4.2
        replace H := f_aload_n H k219_65 rfl
        replace H := f_gi H k219_66 (ci := 12) (f := 35) (by decide +kernel) (by decide)
        rw [o4, b3] at H
        have Hbr := f_icmp_ge H k219_69 (t := 95) (by decide)
        clear H
        rcases Hbr with ⟨c1, H⟩ | ⟨c1, H⟩
        · -- a move
          rw [nxle (by omega) (by omega)] at c1
          have ey : yrS C S W b s2 x = ((s2.1, s2.2.1, s2.2.2.1, (fun p => if p = drN (shf (shf x)) W then drN (shf (shf (shf x))) C else s2.2.2.2.1 p), s2.2.2.2.2), shf (shf (shf x))) := by
            unfold yrS
            rw [if_neg (by omega)]
          have hp4 : drN (shf (shf x)) W < W := Nat.mod_lt _ hW1
          have he8 : drN (shf (shf (shf x))) C < C := Nat.mod_lt _ hC0
          replace H := f_aload_n H k219_95 rfl
          replace H := f_aload_n H k219_96 rfl
          replace H := f_gi H k219_97 (ci := 12) (f := 27) (by decide +kernel) (by decide)
          rw [o4, w3] at H
          obtain ⟨rv, m5, ⟨rfl, e3⟩, h9_100⟩ := f_inv H k219_100 (by decide +kernel) (as := [.int _]) (b := 314) (r := []) (by rfl) (c_mdraw hx4 hW1 (by omega))
          replace H := h9_100
          subst e3
          have o5 : ∀ a i, (mJ m4 314 43 (shf (shf x))).1 a i = m3.1 a i := fun a i => o4 a i
          have hx5 : (mJ m4 314 43 (shf (shf x))).2.1 314 43 = shf (shf x) := mJ_at
          have hI5 : gI tS tR (mJ m4 314 43 (shf (shf x))) := gI_mJ hI4
          have hj5 : jM (mJ m4 314 43 (shf (shf x))) := jM_st (c := (0, [], [], [], [])) (by decide) m4 _ (fun _ _ _ => rfl) hj4
          generalize mJ m4 314 43 (shf (shf x)) = m5 at *
          have hr : rS m5 := hI5.2
          replace H := f_istore H k219_103 (l2 := [(5, .int _), (4, .int (nI i)), (0, .ref 314), (1, .int (nI N)), (2, .long sd)]) rfl
          replace H := f_aload_n H k219_105 rfl
          replace H := f_gr H k219_106 (ci := 12) (f := 32) (x := 326) (by decide +kernel) (by decide) (hr 314 32 326 rfl)
          replace H := f_bipush H k219_109 (v := 16) (by decide)
          replace H := f_iconst H k219_111 (v := 2) (by decide)
          replace H := f_iload H k219_112 rfl
          replace H := f_imul H k219_114
          replace H := f_iadd H k219_115
          replace H := f_iconst H k219_116 (v := 0) (by decide)
          replace H := f_iadd H k219_117
          replace H := f_aload_n H k219_118 rfl
          replace H := f_aload_n H k219_119 rfl
          replace H := f_gi H k219_120 (ci := 12) (f := 25) (by decide +kernel) (by decide)
          rw [o5, t1] at H
          obtain ⟨rv, m6, ⟨rfl, e3⟩, h9_123⟩ := f_inv H k219_123 (by decide +kernel) (as := [.int _]) (b := 314) (r := [.int _, .ref 326]) (by rfl) (c_mdraw hx5 hC0 (by omega))
          replace H := h9_123
          subst e3
          have o6 : ∀ a i, (mJ m5 314 43 (shf (shf (shf x)))).1 a i = m3.1 a i := fun a i => o5 a i
          have hx6 : (mJ m5 314 43 (shf (shf (shf x)))).2.1 314 43 = shf (shf (shf x)) := mJ_at
          have hI6 : gI tS tR (mJ m5 314 43 (shf (shf (shf x)))) := gI_mJ hI5
          have hj6 : jM (mJ m5 314 43 (shf (shf (shf x)))) := jM_st (c := (0, [], [], [], [])) (by decide) m5 _ (fun _ _ _ => rfl) hj5
          generalize mJ m5 314 43 (shf (shf (shf x))) = m6 at *
          have hr : rS m6 := hI6.2
          generalize drN (shf (shf x)) W = pp at *
          generalize drN (shf (shf (shf x))) C = ee at *
          rw [show (2 : Int32) = nI 2 from rfl, show (16 : Int32) = nI 16 from rfl, show (0 : Int32) = nI 0 from rfl, nI_mul, r_ad, r_ad] at H
          have Hob := f_iast H k219_126 (c := 208) (by decide)
          clear H
          obtain ⟨hb126, H⟩ := Hob
          rw [nI_clamp (by omega), Nat.add_zero (16 + 2 * pp)] at H
          have f6 : frV m m6 := frV_t hf3 (fun a i _ => o6 a i)
          refine day _ _ _ (mI m6 326 (16 + 2 * pp) (nI (ee))) ey (gI_m2 hI6 (by rw [sg_16 (p := pp) (by omega), nI_toInt (by omega)]; exact ⟨by show (0 : Int) ≤ _; omega, by show _ ≤ (7 : Int); omega⟩)) (jM_26 (by omega) hj6) (frV_s f6 (by omega)) ?_ (RM_f hW4 hR3 (fun a i z1 => by rw [mI_ne (by omega)]; exact o6 a i)) hx6 (f_ext H (lE_cons rfl (lE_cons rfl (lE_cons rfl (lE_cons rfl (lE_cons rfl lE_nil))))) rfl rfl)
          obtain ⟨a1, a2, a3, a4, a5, a6⟩ := hs3
          refine ⟨by rw [mI_ne (by omega), o6]; exact a1, by rw [mI_ne (by omega), o6]; exact a2, by rw [mI_ne (by omega), o6]; exact a3, by rw [mI_ne (by omega), o6]; exact a4, fun p hp => ⟨?_, by rw [mI_ne (by omega), o6]; exact (a5 p hp).2⟩, fun e he => by rw [mI_ne (by omega), o6]; exact a6 e he⟩
          show _ = nI (if p = pp then ee else s2.2.2.2.1 p)
          by_cases c : p = pp
          · rw [if_pos c, c, Nat.zero_add, mI_at]
          · rw [if_neg c, mI_ne (by omega), o6]
            exact (a5 p hp).1
        · -- the council
          rw [nxle (by omega) (by omega)] at c1
          have ey : yrS C S W b s2 x = ((s2.1 ^^^ 2 ^ drN (shf (shf x)) S, s2.2), shf (shf x)) := by
            unfold yrS
            rw [if_pos (by omega)]
          have hp12 : drN (shf (shf x)) S < S := Nat.mod_lt _ hS0
          have a1 := hs3.1
          rw [Nat.zero_add] at a1
          replace H := f_aload_n H k219_72 rfl
          replace H := f_gr H k219_73 (ci := 12) (f := 32) (x := 326) (by decide +kernel) (by decide) (hr 314 32 326 rfl)
          replace H := f_bipush H k219_76 (v := 24) (by decide)
          replace H := f_dup2 H k219_78
          have Hob := f_iald H k219_79 (c := 208) (by decide)
          clear H
          obtain ⟨hb79, H⟩ := Hob
          replace H := f_iconst H k219_80 (v := 1) (by decide)
          replace H := f_aload_n H k219_81 rfl
          replace H := f_aload_n H k219_82 rfl
          replace H := f_gi H k219_83 (ci := 12) (f := 26) (by decide +kernel) (by decide)
          rw [c24, o4, o4, a1, t2] at H
          obtain ⟨rv, m5, ⟨rfl, e3⟩, h9_86⟩ := f_inv H k219_86 (by decide +kernel) (as := [.int _]) (b := 314) (r := [.int _, .int _, .int _, .ref 326]) (by rfl) (c_mdraw hx4 hS0 (by omega))
          replace H := h9_86
          subst e3
          have o5 : ∀ a i, (mJ m4 314 43 (shf (shf x))).1 a i = m3.1 a i := fun a i => o4 a i
          have hx5 : (mJ m4 314 43 (shf (shf x))).2.1 314 43 = shf (shf x) := mJ_at
          have hI5 : gI tS tR (mJ m4 314 43 (shf (shf x))) := gI_mJ hI4
          have hj5 : jM (mJ m4 314 43 (shf (shf x))) := jM_st (c := (0, [], [], [], [])) (by decide) m4 _ (fun _ _ _ => rfl) hj4
          generalize mJ m4 314 43 (shf (shf x)) = m5 at *
          have hr : rS m5 := hI5.2
          replace H := f_ishl H k219_89
          replace H := f_ixor H k219_90
          have Hob := f_iast H k219_91 (c := 208) (by decide)
          clear H
          obtain ⟨hb91, H⟩ := Hob
          replace H := f_goto H k219_92 (t := 127) (by decide)
          rw [shl_n (by omega), nx_xor, c24] at H
          have f5 : frV m m5 := frV_t hf3 (fun a i _ => o5 a i)
          refine day _ _ _ (mI m5 326 24 (nI (s2.1 ^^^ 2 ^ drN (shf (shf x)) S))) ey (gI_x hI5 (by decide +kernel)) (jM_26 (by omega) hj5) (frV_s f5 (by omega)) ?_ (RM_f hW4 hR3 (fun a i z1 => by rw [mI_ne (by omega)]; exact o5 a i)) hx5 (f_ext H (lE_cons rfl (lE_cons rfl (lE_cons rfl (lE_cons rfl (lE_cons rfl lE_nil))))) rfl rfl)
          obtain ⟨a1, a2, a3, a4, a5, a6⟩ := hs3
          exact ⟨mI_at, by rw [mI_ne (by omega), o5]; exact a2, by rw [mI_ne (by omega), o5]; exact a3, by rw [mI_ne (by omega), o5]; exact a4, fun p hp => ⟨by rw [mI_ne (by omega), o5]; exact (a5 p hp).1, by rw [mI_ne (by omega), o5]; exact (a5 p hp).2⟩, fun e he => by rw [mI_ne (by omega), o5]; exact a6 e he⟩
  have hd : m1.1 326 26 = nI s.2.2.1 := by have := hs1.2.2.1; rwa [Nat.zero_add] at this
  have hd9 := hv.2.2.1
  have t2 : m1.1 314 26 = nI S := by rw [f1 314 26 (by omega)]; exact hT.2.1
  replace H := f_aload_n H k219_5 rfl
  replace H := f_gi H k219_6 (ci := 12) (f := 26) (by decide +kernel) (by decide)
  rw [t2] at H
  have Hbr := f_if_eq H k219_9 (t := 39) (by decide)
  clear H
  rcases Hbr with ⟨c, H⟩ | ⟨c, H⟩
  · rw [show (0 : Int32) = nI 0 from rfl, nI_inj (by omega) (by omega)] at c
    exact neg _ (fun q => by have := hCS.mpr c; omega) H
  · rw [show (0 : Int32) = nI 0 from rfl, nI_inj (by omega) (by omega)] at c
    have h0 : 0 < C := by
      have : C ≠ 0 := fun q => c (hCS.mp q)
      omega
    replace H := f_iload_n H k219_12 rfl
    replace H := f_i2l H k219_13
    replace H := f_lconst H k219_14 (v := 1) (by decide)
    replace H := f_ldc2 H k219_15 (v := 30) (by decide +kernel)
    obtain ⟨rv, m3, ⟨ho, e3⟩, h9_18⟩ := f_ins H k219_18 (by decide +kernel) (as := [.long _, .long _, .long _]) (r := []) (by rfl) (c_isInK (v := z) (l := 1) (mo := 30) (by decide) (by decide))
    replace H := h9_18
    rw [← e3] at H
    clear e3
    rcases ho with ⟨c1, c2, rfl⟩ | ⟨c1, rfl⟩
    · rw [Int32.le_iff_toInt_le, show (1 : Int32).toInt = 1 by decide] at c1
      rw [Int32.le_iff_toInt_le, show (30 : Int32).toInt = 30 by decide] at c2
      obtain ⟨N, hN, hzN⟩ := i_rng (x := z) (L := 30) (by omega) (by omega) (by decide)
      rw [hzN, nI_toInt (by omega)] at c1
      replace H := f_if_eq_f H k219_21 (by decide)
      replace H := f_aload_n H k219_24 rfl
      replace H := f_gr H k219_25 (ci := 12) (f := 32) (x := 326) (by decide +kernel) (by decide) (hr 314 32 326 rfl)
      replace H := f_bipush H k219_28 (v := 26) (by decide)
      have Hob := f_iald H k219_30 (c := 208) (by decide)
      clear H
      obtain ⟨hb30, H⟩ := Hob
      replace H := f_iload_n H k219_31 rfl
      replace H := f_iadd H k219_32
      replace H := f_sipush H k219_33 (v := 999) (by decide)
      rw [c26, hd, hzN, r_ad, show (999 : Int32) = nI 999 from rfl] at H
      have Hbr := f_icmp_le H k219_36 (t := 41) (by decide)
      clear H
      rcases Hbr with ⟨c3, H⟩ | ⟨c3, H⟩
      · rw [nxle (by omega) (by omega)] at c3
        replace H := f_aload_n H k219_41 rfl
        replace H := f_lload_n H k219_42 rfl
        replace H := f_put_l H k219_43 (ci := 12) (f := 43) (by decide +kernel) (by decide)
        replace H := f_iconst H k219_46 (v := 0) (by decide)
        replace H := f_istore H k219_47 (l2 := [(4, .int 0), (0, .ref 314), (1, .int (nI N)), (2, .long sd)]) rfl
        replace H := f_ext H (l' := [(4, .int (nI 0)), (5, .int 0), (0, .ref 314), (1, .int (nI N)), (2, .long sd)]) (lE_cons rfl (lE_cons rfl (lE_cons rfl (lE_cons rfl (lE_nil))))) rfl rfl
        exact lp _ N 0 0 sd s ks (mJ m1 314 43 sd) h0 (by omega) hN hzN (by omega) c3 rfl hv (gI_mJ hI1) (jM_st (c := (0, [], [], [], [])) (by decide) m1 _ (fun _ _ _ => rfl) hj1) (frV_t f1 (fun _ _ _ => rfl)) ⟨hs1, hR1⟩ mJ_at rfl H
      · rw [nxle (by omega) (by omega)] at c3
        exact neg _ (fun ⟨_, n, q1, q2, q3, q4⟩ => by
          rw [hzN, nI_inj (by omega) (by omega)] at q3
          omega) (by rw [hzN]; exact H)
    · replace H := f_if_eq_t H k219_21 rfl (t := 39) (by decide)
      exact neg _ (fun ⟨_, n, q1, q2, q3, q4⟩ => by
        rcases c1 with c1 | c1
        · rw [Int32.lt_iff_toInt_lt, show (1 : Int32).toInt = 1 by decide, q3, nI_toInt (by omega)] at c1
          omega
        · rw [Int32.lt_iff_toInt_lt, show (30 : Int32).toInt = 30 by decide, q3, nI_toInt (by omega)] at c1
          omega) H
