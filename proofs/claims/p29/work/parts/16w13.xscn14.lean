theorem k120_0 : lkc 0 (kcode 120) = some (.aload_n 0) := by decide +kernel
theorem k120_1 : lkc 1 (kcode 120) = some (.invokevirtual 239) := by decide +kernel
theorem k120_4 : lkc 4 (kcode 120) = some (.ifCond .eq 29) := by decide +kernel
theorem k120_7 : lkc 7 (kcode 120) = some (.iload_n 1) := by decide +kernel
theorem k120_8 : lkc 8 (kcode 120) = some (.iconst 1) := by decide +kernel
theorem k120_9 : lkc 9 (kcode 120) = some (.if_icmp .lt 24) := by decide +kernel
theorem k120_12 : lkc 12 (kcode 120) = some (.iload_n 1) := by decide +kernel
theorem k120_13 : lkc 13 (kcode 120) = some (.bipush 30) := by decide +kernel
theorem k120_15 : lkc 15 (kcode 120) = some (.if_icmp .gt 18) := by decide +kernel
theorem k120_18 : lkc 18 (kcode 120) = some (.aload_n 0) := by decide +kernel
theorem k120_19 : lkc 19 (kcode 120) = some (.getfield 75) := by decide +kernel
theorem k120_22 : lkc 22 (kcode 120) = some (.getfield 223) := by decide +kernel
theorem k120_25 : lkc 25 (kcode 120) = some (.iload_n 1) := by decide +kernel
theorem k120_26 : lkc 26 (kcode 120) = some (.iadd) := by decide +kernel
theorem k120_27 : lkc 27 (kcode 120) = some (.sipush 999) := by decide +kernel
theorem k120_30 : lkc 30 (kcode 120) = some (.if_icmp .le 5) := by decide +kernel
theorem k120_33 : lkc 33 (kcode 120) = some (.iconst (-1)) := by decide +kernel
theorem k120_34 : lkc 34 (kcode 120) = some (.ireturn) := by decide +kernel
theorem k120_35 : lkc 35 (kcode 120) = some (.lload_n 2) := by decide +kernel
theorem k120_36 : lkc 36 (kcode 120) = some (.lstore 4) := by decide +kernel
theorem k120_38 : lkc 38 (kcode 120) = some (.iconst 0) := by decide +kernel
theorem k120_39 : lkc 39 (kcode 120) = some (.istore 6) := by decide +kernel
theorem k120_41 : lkc 41 (kcode 120) = some (.iload 6) := by decide +kernel
theorem k120_43 : lkc 43 (kcode 120) = some (.iload_n 1) := by decide +kernel
theorem k120_44 : lkc 44 (kcode 120) = some (.if_icmp .ge 136) := by decide +kernel
theorem k120_47 : lkc 47 (kcode 120) = some (.aload_n 0) := by decide +kernel
theorem k120_48 : lkc 48 (kcode 120) = some (.getfield 85) := by decide +kernel
theorem k120_51 : lkc 51 (kcode 120) = some (.aload_n 0) := by decide +kernel
theorem k120_52 : lkc 52 (kcode 120) = some (.getfield 75) := by decide +kernel
theorem k120_55 : lkc 55 (kcode 120) = some (.invokevirtual 243) := by decide +kernel
theorem k120_58 : lkc 58 (kcode 120) = some (.lload 4) := by decide +kernel
theorem k120_60 : lkc 60 (kcode 120) = some (.invokestatic 269) := by decide +kernel
theorem k120_63 : lkc 63 (kcode 120) = some (.lstore 4) := by decide +kernel
theorem k120_65 : lkc 65 (kcode 120) = some (.lload 4) := by decide +kernel
theorem k120_67 : lkc 67 (kcode 120) = some (.bipush 10) := by decide +kernel
theorem k120_69 : lkc 69 (kcode 120) = some (.invokestatic 273) := by decide +kernel
theorem k120_72 : lkc 72 (kcode 120) = some (.aload_n 0) := by decide +kernel
theorem k120_73 : lkc 73 (kcode 120) = some (.getfield 102) := by decide +kernel
theorem k120_76 : lkc 76 (kcode 120) = some (.if_icmp .ge 7) := by decide +kernel
theorem k120_79 : lkc 79 (kcode 120) = some (.iconst 1) := by decide +kernel
theorem k120_80 : lkc 80 (kcode 120) = some (.goto 4) := by decide +kernel
theorem k120_83 : lkc 83 (kcode 120) = some (.iconst 0) := by decide +kernel
theorem k120_84 : lkc 84 (kcode 120) = some (.istore 7) := by decide +kernel
theorem k120_86 : lkc 86 (kcode 120) = some (.lload 4) := by decide +kernel
theorem k120_88 : lkc 88 (kcode 120) = some (.invokestatic 269) := by decide +kernel
theorem k120_91 : lkc 91 (kcode 120) = some (.lstore 4) := by decide +kernel
theorem k120_93 : lkc 93 (kcode 120) = some (.iload 7) := by decide +kernel
theorem k120_95 : lkc 95 (kcode 120) = some (.ifCond .eq 32) := by decide +kernel
theorem k120_98 : lkc 98 (kcode 120) = some (.aload_n 0) := by decide +kernel
theorem k120_99 : lkc 99 (kcode 120) = some (.getfield 75) := by decide +kernel
theorem k120_102 : lkc 102 (kcode 120) = some (.dup) := by decide +kernel
theorem k120_103 : lkc 103 (kcode 120) = some (.getfield 193) := by decide +kernel
theorem k120_106 : lkc 106 (kcode 120) = some (.iconst 1) := by decide +kernel
theorem k120_107 : lkc 107 (kcode 120) = some (.lload 4) := by decide +kernel
theorem k120_109 : lkc 109 (kcode 120) = some (.aload_n 0) := by decide +kernel
theorem k120_110 : lkc 110 (kcode 120) = some (.getfield 19) := by decide +kernel
theorem k120_113 : lkc 113 (kcode 120) = some (.getfield 156) := by decide +kernel
theorem k120_116 : lkc 116 (kcode 120) = some (.invokestatic 273) := by decide +kernel
theorem k120_119 : lkc 119 (kcode 120) = some (.ishl) := by decide +kernel
theorem k120_120 : lkc 120 (kcode 120) = some (.ixor) := by decide +kernel
theorem k120_121 : lkc 121 (kcode 120) = some (.putfield 193) := by decide +kernel
theorem k120_124 : lkc 124 (kcode 120) = some (.goto 46) := by decide +kernel
theorem k120_127 : lkc 127 (kcode 120) = some (.lload 4) := by decide +kernel
theorem k120_129 : lkc 129 (kcode 120) = some (.aload_n 0) := by decide +kernel
theorem k120_130 : lkc 130 (kcode 120) = some (.getfield 19) := by decide +kernel
theorem k120_133 : lkc 133 (kcode 120) = some (.getfield 219) := by decide +kernel
theorem k120_136 : lkc 136 (kcode 120) = some (.invokestatic 273) := by decide +kernel
theorem k120_139 : lkc 139 (kcode 120) = some (.istore 8) := by decide +kernel
theorem k120_141 : lkc 141 (kcode 120) = some (.lload 4) := by decide +kernel
theorem k120_143 : lkc 143 (kcode 120) = some (.invokestatic 269) := by decide +kernel
theorem k120_146 : lkc 146 (kcode 120) = some (.lstore 4) := by decide +kernel
theorem k120_148 : lkc 148 (kcode 120) = some (.aload_n 0) := by decide +kernel
theorem k120_149 : lkc 149 (kcode 120) = some (.getfield 75) := by decide +kernel
theorem k120_152 : lkc 152 (kcode 120) = some (.getfield 206) := by decide +kernel
theorem k120_155 : lkc 155 (kcode 120) = some (.iload 8) := by decide +kernel
theorem k120_157 : lkc 157 (kcode 120) = some (.lload 4) := by decide +kernel
theorem k120_159 : lkc 159 (kcode 120) = some (.aload_n 0) := by decide +kernel
theorem k120_160 : lkc 160 (kcode 120) = some (.getfield 19) := by decide +kernel
theorem k120_163 : lkc 163 (kcode 120) = some (.getfield 216) := by decide +kernel
theorem k120_166 : lkc 166 (kcode 120) = some (.invokestatic 273) := by decide +kernel
theorem k120_169 : lkc 169 (kcode 120) = some (.iastore) := by decide +kernel
theorem k120_170 : lkc 170 (kcode 120) = some (.aload_n 0) := by decide +kernel
theorem k120_171 : lkc 171 (kcode 120) = some (.invokevirtual 247) := by decide +kernel
theorem k120_174 : lkc 174 (kcode 120) = some (.iinc 6 1) := by decide +kernel
theorem k120_177 : lkc 177 (kcode 120) = some (.goto (-136)) := by decide +kernel
theorem k120_180 : lkc 180 (kcode 120) = some (.aload_n 0) := by decide +kernel
theorem k120_181 : lkc 181 (kcode 120) = some (.getfield 75) := by decide +kernel
theorem k120_184 : lkc 184 (kcode 120) = some (.getfield 223) := by decide +kernel
theorem k120_187 : lkc 187 (kcode 120) = some (.ireturn) := by decide +kernel
/-! forward: years, the class -/
def frY (m m2 : xM) : Prop := ∀ a i, (a < 47 ∨ (a = 47 ∧ (i = 4 ∨ i = 5)) ∨ (48 ≤ a ∧ a ≤ 53) ∨ (55 ≤ a ∧ a ≤ 62) ∨ (84 ≤ a ∧ a ≤ 88) ∨ a = 301 ∨ 305 ≤ a) → m2.1 a i = m.1 a i
theorem frY_t {m m1 m2 : xM} (h : frY m m1) (g : frY m1 m2) : frY m m2 := fun a i q => (g a i q).trans (h a i q)
theorem frY_k {x h : Nat} {m mk : xM} (q : kpO x h m mk) (hx : x < 40) : frY m mk := fun a i z => kpO_f q hx (by omega)
theorem frY_L {m m2 : xM} (h : frL m m2) : frY m m2 := fun a i z => h a i (by omega)
theorem frY_s {m m2 : xM} {a i : Nat} {v : Int32} (h : frY m m2) (ha : a = 89 ∨ a = 92) : frY m (mI m2 a i v) := fun b j z => by rw [mI_ne (by omega)]; exact h b j z
theorem xT_Y {m m2 : xM} {C S : Nat} {A B Y : Nat → Nat} (hT : xT m C S A B Y) (h : frY m m2) : xT m2 C S A B Y := xT_f hT (fun a i h1 h2 => h a i (by omega))
theorem sg_h : ∀ p : Fin 4, gseg p.val (tS 92) = (0, 7) := by decide +kernel
/-- the state of a run of years -/
def yrX (m : xM) (W : Nat) (r : Sc × Int64 × List Sc) : Prop := SX m 89 W r.1 ∧ ∃ x, RX m W x r.2.2
set_option maxHeartbeats 4000000 in
theorem c_years {m : xM} {C S W b x0 : Nat} {A B Y : Nat → Nat} {s : Sc} {ks : List Sc} {z : Int32} {sd : Int64} (hI : gI tS tR m) (hT : xT m C S A B Y) (hCS : C = 0 ↔ S = 0) (hW : m.1 3 2 = nI W) (hW4 : W ≤ 4) (hW0 : 0 < C → 0 < W) (hb : m.1 0 16 = nI b) (hb9 : b ≤ 9) (hv : scV C S W s) (hs : SX m 89 W s) (hR : RX m W x0 ks) : fC 120 [.ref 0, .int z, .long sd] m (fun rv m' => (¬ (0 < C ∧ ∃ n, 1 ≤ n ∧ n ≤ 30 ∧ z = nI n ∧ s.2.2.1 + n ≤ 999) ∧ rv = some (.int (-1)) ∧ m' = m) ∨ (0 < C ∧ ∃ n, 1 ≤ n ∧ n ≤ 30 ∧ z = nI n ∧ s.2.2.1 + n ≤ 999 ∧ rv = some (.int (nI (s.2.2.1 + n))) ∧ frY m m' ∧ yrX m' W (yrN C S W b A B Y n s sd ks))) := by
  refine fC_of (by decide) (fun d n P H => ?_)
  have hC8 : C ≤ 8 := hT.2.2.1
  have hS12 : S ≤ 12 := hT.2.2.2.1
  have hSt : ∀ s, s < S → A s ≠ B s ∧ 1 ≤ Y s ∧ Y s ≤ 40 := fun s hs => ⟨(hT.2.2.2.2.1 s hs).2.2.2.2.2.1, (hT.2.2.2.2.1 s hs).2.2.2.2.2.2.1, (hT.2.2.2.2.1 s hs).2.2.2.2.2.2.2⟩
  have neg : ∀ n, ¬ (0 < C ∧ ∃ n, 1 ≤ n ∧ n ≤ 30 ∧ z = nI n ∧ s.2.2.1 + n ≤ 999) → xF 120 (xw d) P n 33 [(0, .ref 0), (1, .int z), (2, .long sd)] [] m → ∃ rv m', P rv m' ∧ ((¬ (0 < C ∧ ∃ n, 1 ≤ n ∧ n ≤ 30 ∧ z = nI n ∧ s.2.2.1 + n ≤ 999) ∧ rv = some (.int (-1)) ∧ m' = m) ∨ (0 < C ∧ ∃ n, 1 ≤ n ∧ n ≤ 30 ∧ z = nI n ∧ s.2.2.1 + n ≤ 999 ∧ rv = some (.int (nI (s.2.2.1 + n))) ∧ frY m m' ∧ yrX m' W (yrN C S W b A B Y n s sd ks))) := by
    intro n hn H
    replace H := f_iconst H k120_33 (v := -1) (by decide)
    replace H := f_iret H k120_34
    exact ⟨_, _, H, Or.inl ⟨hn, rfl, rfl⟩⟩
  -- the rounds
  have lp : ∀ n N i l7 l8 (x : Int64) (s2 : Sc) (ks2 : List Sc) m2, 0 < C → 1 ≤ N → N ≤ 30 → z = nI N → i ≤ N → s.2.2.1 + N ≤ 999 → s2.2.2.1 = s.2.2.1 + i → scV C S W s2 → gI tS tR m2 → frY m m2 → yrX m2 W (s2, x, ks2) → yrN C S W b A B Y (N - i) s2 x ks2 = yrN C S W b A B Y N s sd ks → xF 120 (xw d) P n 41 [(6, .int (nI i)), (4, .long x), (7, .int l7), (8, .int l8), (0, .ref 0), (1, .int (nI N)), (2, .long sd)] [] m2 → ∃ rv m', P rv m' ∧ ((¬ (0 < C ∧ ∃ n, 1 ≤ n ∧ n ≤ 30 ∧ z = nI n ∧ s.2.2.1 + n ≤ 999) ∧ rv = some (.int (-1)) ∧ m' = m) ∨ (0 < C ∧ ∃ n, 1 ≤ n ∧ n ≤ 30 ∧ z = nI n ∧ s.2.2.1 + n ≤ 999 ∧ rv = some (.int (nI (s.2.2.1 + n))) ∧ frY m m' ∧ yrX m' W (yrN C S W b A B Y n s sd ks))) := by
    intro n
    induction n with
    | zero => exact fun N i l7 l8 x s2 ks2 m2 _ _ _ _ _ _ _ _ _ _ _ _ H => (xF_0 H).elim
    | succ n ih =>
      intro N i l7 l8 x s2 ks2 m2 hC0 hN1 hN30 hz hi hsN hd2 hv2 hI2 hf hy hq H
      have hr : rS m2 := hI2.2
      obtain ⟨hs2, x1, hR2⟩ := hy
      replace H := f1_iload H k120_41 rfl
      replace H := f_iload_n H k120_43 rfl
      have Hbr := f_icmp_ge H k120_44 (t := 180) (by decide)
      clear H
      rcases Hbr with ⟨k0, H⟩ | ⟨k0, H⟩
      · rw [nxle (by omega) (by omega)] at k0
        have ei : i = N := by omega
        subst ei
        have e3 : m2.1 89 2 = nI s2.2.2.1 := hs2.2.2.1
        replace H := f_aload_n H k120_180 rfl
        replace H := f_gr H k120_181 (ci := 11) (f := 9) (x := 89) (by decide +kernel) (by decide) (hr 0 9 89 rfl)
        replace H := f_gi H k120_184 (ci := 6) (f := 2) (by decide +kernel) (by decide)
        rw [e3, hd2] at H
        replace H := f_iret H k120_187
        refine ⟨_, _, H, Or.inr ⟨hC0, i, hN1, hN30, hz, hsN, rfl, hf, ?_⟩⟩
        rw [← hq, Nat.sub_self]
        exact ⟨hs2, x1, hR2⟩
      · rw [nxle (by omega) (by omega)] at k0
        replace H := f_aload_n H k120_47 rfl
        replace H := f_gr H k120_48 (ci := 11) (f := 11) (x := 99) (by decide +kernel) (by decide) (hr 0 11 99 rfl)
        replace H := f_aload_n H k120_51 rfl
        replace H := f_gr H k120_52 (ci := 11) (f := 9) (x := 89) (by decide +kernel) (by decide) (hr 0 9 89 rfl)
        obtain ⟨rv, m3, ⟨⟨rfl, hk⟩, hI3, -⟩, h9_55⟩ := f_inv H k120_55 (by decide +kernel) (as := [.ref 89]) (b := 99) (r := []) (by rfl) (fC_two (c_keep hr hR2.2.1 hR2.1 hR2.2.2.1 hR2.2.2.2.1) (fC_vC q166 hI2 jTok ⟨aR_a 99, aR_a 89, trivial⟩ gF_nil))
        replace H := h9_55
        have hkp : kpO x1 ks2.length m2 m3 := hk
        have hr : rS m3 := hI3.2
        have hR3 := RX_psh hW4 hR2 hs2 hkp
        have hs3 : SX m3 89 W s2 := SX_f hs2 (fun a i z1 z2 => kpO_f hkp hR2.1 (by omega))
        have hf3 := frY_t hf (frY_k hkp hR2.1)
        have hT3 := xT_Y hT hf3
        have b3 : m3.1 0 16 = nI b := by rw [hf3 0 16 (by omega)]; exact hb
        clear hk
        have hS0 : 0 < S := by
          have : S ≠ 0 := fun q => by have := hCS.mpr q; omega
          omega
        have hW1 := hW0 hC0
        have hT3xW : m3.1 3 2 = nI W := by rw [hf3 3 2 (by omega)]; exact hW
        -- the day behind the draws
        have day : ∀ l7 l8 (x9 : Int64) (s9 : Sc) m4, yrS C S W b s2 x = (s9, x9) → gI tS tR m4 → frY m m4 → SX m4 89 W s9 → RX m4 W (nx1 x1) (psh ks2 s2) → xF 120 (xw d) P n 170 [(6, .int (nI i)), (4, .long x9), (7, .int l7), (8, .int l8), (0, .ref 0), (1, .int (nI N)), (2, .long sd)] [] m4 → ∃ rv m', P rv m' ∧ ((¬ (0 < C ∧ ∃ n, 1 ≤ n ∧ n ≤ 30 ∧ z = nI n ∧ s.2.2.1 + n ≤ 999) ∧ rv = some (.int (-1)) ∧ m' = m) ∨ (0 < C ∧ ∃ n, 1 ≤ n ∧ n ≤ 30 ∧ z = nI n ∧ s.2.2.1 + n ≤ 999 ∧ rv = some (.int (nI (s.2.2.1 + n))) ∧ frY m m' ∧ yrX m' W (yrN C S W b A B Y n s sd ks))) := by
          intro l7 l8 x9 s9 m4 es hI4 hf4 hs4 hR4 H
          have hr : rS m4 := hI4.2
          have hvd := yrS_V (b := b) (x := x) hv2 hC0 hS0
          rw [es] at hvd
          obtain ⟨hv9, hd9⟩ := hvd
          replace hd9 : s9.2.2.1 = s2.2.2.1 := hd9
          replace hv9 : scV C S W s9 := hv9
          have hW9 : m4.1 3 2 = nI W := by rw [hf4 3 2 (by omega)]; exact hW
          replace H := f_aload_n H k120_170 rfl
          obtain ⟨rv, m5, ⟨⟨rfl, hl⟩, hI5, -⟩, h9_171⟩ := f_inv H k120_171 (by decide +kernel) (as := []) (b := 0) (r := []) (by rfl) (fC_two (c_liveDay hI4 (xT_Y hT hf4) (xS_of hS12 hW9 hW4 hv9 hs4)) (fC_vC q196 hI4 jTok ⟨aR_a 0, trivial⟩ gF_nil))
          replace H := h9_171
          rw [gAny_x hC8 hSt s9] at hl
          have hs5 := SX_day hs4 hl
          have hR5 := RX_f hR4 (m2 := m5) (fun a i z1 z2 => hl.1 a i (by omega))
          have hf5 := frY_t hf4 (frY_L hl.1)
          replace H := f_iinc H k120_174 rfl (l2 := [(6, .int (nI i + 1)), (4, .long x9), (7, .int l7), (8, .int l8), (0, .ref 0), (1, .int (nI N)), (2, .long sd)]) rfl
          replace H := f_goto H k120_177 (t := 41) (by decide)
          rw [nI_s] at H
          refine ih N (i + 1) l7 l8 x9 (dayS C S W A B Y s9) (psh ks2 s2) m5 hC0 hN1 hN30 hz (by omega) hsN (by show s9.2.2.1 + 1 = s.2.2.1 + (i + 1); omega) (dayS_V hv9 (by omega)) hI5 hf5 ⟨hs5, _, hR5⟩ ?_ H
          rw [← hq, show N - i = (N - (i + 1)) + 1 by omega]
          show _ = yrN C S W b A B Y (N - (i + 1)) (dayS C S W A B Y (yrS C S W b s2 x).1) (yrS C S W b s2 x).2 (psh ks2 s2)
          rw [es]
        replace H := f_lload H k120_58 rfl
        obtain ⟨rv, m4, ⟨rfl, e3⟩, h9_60⟩ := f_ins H k120_60 (by decide +kernel) (as := [.long _]) (r := []) (by rfl) (c_shuf)
        replace H := h9_60
        rw [← e3] at H
        clear e3
        replace H := f_lstore H k120_63 (l2 := [(4, .long (shf x)), (6, .int (nI i)), (7, .int l7), (8, .int l8), (0, .ref 0), (1, .int (nI N)), (2, .long sd)]) rfl
        replace H := f_lload H k120_65 rfl
        replace H := f_bipush H k120_67 (v := 10) (by decide)
        rw [show (10 : Int32) = nI 10 from rfl] at H
        obtain ⟨rv, m4, ⟨rfl, e3⟩, h9_69⟩ := f_ins H k120_69 (by decide +kernel) (as := [.long _, .int _]) (r := []) (by rfl) (c_drawn (by omega) (by omega))
        replace H := h9_69
        rw [← e3] at H
        clear e3
        have hdr : drN (shf x) 10 < 10 := Nat.mod_lt _ (by omega)
        replace H := f_aload_n H k120_72 rfl
        replace H := f_gi H k120_73 (ci := 11) (f := 16) (by decide +kernel) (by decide)
        rw [b3] at H
        have Hbr := f_icmp_ge H k120_76 (t := 83) (by decide)
        clear H
        rcases Hbr with ⟨c1, H⟩ | ⟨c1, H⟩
        · -- a move
          rw [nxle (by omega) (by omega)] at c1
          have ey : yrS C S W b s2 x = ((s2.1, s2.2.1, s2.2.2.1, (fun p => if p = drN (shf (shf x)) W then drN (shf (shf (shf x))) C else s2.2.2.2.1 p), s2.2.2.2.2), shf (shf (shf x))) := by
            unfold yrS
            rw [if_neg (by omega)]
          have hp4 : drN (shf (shf x)) W < W := Nat.mod_lt _ hW1
          have he8 : drN (shf (shf (shf x))) C < C := Nat.mod_lt _ hC0
          replace H := f_iconst H k120_83 (v := 0) (by decide)
          replace H := f_istore H k120_84 (l2 := [(7, .int 0), (4, .long (shf x)), (6, .int (nI i)), (8, .int l8), (0, .ref 0), (1, .int (nI N)), (2, .long sd)]) rfl
          replace H := f_lload H k120_86 rfl
          obtain ⟨rv, m4, ⟨rfl, e3⟩, h9_88⟩ := f_ins H k120_88 (by decide +kernel) (as := [.long _]) (r := []) (by rfl) (c_shuf)
          replace H := h9_88
          rw [← e3] at H
          clear e3
          replace H := f_lstore H k120_91 (l2 := [(4, .long (shf (shf x))), (7, .int 0), (6, .int (nI i)), (8, .int l8), (0, .ref 0), (1, .int (nI N)), (2, .long sd)]) rfl
          replace H := f_iload H k120_93 rfl
          replace H := f_if_eq_t H k120_95 rfl (t := 127) (by decide)
          replace H := f_lload H k120_127 rfl
          replace H := f_aload_n H k120_129 rfl
          replace H := f_gr H k120_130 (ci := 11) (f := 1) (x := 3) (by decide +kernel) (by decide) (hr 0 1 3 rfl)
          replace H := f_gi H k120_133 (ci := 5) (f := 2) (by decide +kernel) (by decide)
          rw [hT3xW] at H
          obtain ⟨rv, m4, ⟨rfl, e3⟩, h9_136⟩ := f_ins H k120_136 (by decide +kernel) (as := [.long _, .int _]) (r := []) (by rfl) (c_drawn hW1 (by omega))
          replace H := h9_136
          rw [← e3] at H
          clear e3
          replace H := f_istore H k120_139 (l2 := [(8, .int (nI (drN (shf (shf x)) W))), (4, .long (shf (shf x))), (7, .int 0), (6, .int (nI i)), (0, .ref 0), (1, .int (nI N)), (2, .long sd)]) rfl
          replace H := f_lload H k120_141 rfl
          obtain ⟨rv, m4, ⟨rfl, e3⟩, h9_143⟩ := f_ins H k120_143 (by decide +kernel) (as := [.long _]) (r := []) (by rfl) (c_shuf)
          replace H := h9_143
          rw [← e3] at H
          clear e3
          replace H := f_lstore H k120_146 (l2 := [(4, .long (shf (shf (shf x)))), (8, .int (nI (drN (shf (shf x)) W))), (7, .int 0), (6, .int (nI i)), (0, .ref 0), (1, .int (nI N)), (2, .long sd)]) rfl
          replace H := f_aload_n H k120_148 rfl
          replace H := f_gr H k120_149 (ci := 11) (f := 9) (x := 89) (by decide +kernel) (by decide) (hr 0 9 89 rfl)
          replace H := f_gr H k120_152 (ci := 6) (f := 5) (x := 92) (by decide +kernel) (by decide) (hr 89 5 92 rfl)
          replace H := f_iload H k120_155 rfl
          replace H := f_lload H k120_157 rfl
          replace H := f_aload_n H k120_159 rfl
          replace H := f_gr H k120_160 (ci := 11) (f := 1) (x := 3) (by decide +kernel) (by decide) (hr 0 1 3 rfl)
          replace H := f_gi H k120_163 (ci := 5) (f := 0) (by decide +kernel) (by decide)
          rw [hT3.1] at H
          obtain ⟨rv, m4, ⟨rfl, e3⟩, h9_166⟩ := f_ins H k120_166 (by decide +kernel) (as := [.long _, .int _]) (r := [.int _, .ref 92]) (by rfl) (c_drawn hC0 (by omega))
          replace H := h9_166
          rw [← e3] at H
          clear e3
          have Hob := f_iast H k120_169 (c := 4) (by decide)
          clear H
          obtain ⟨hb169, H⟩ := Hob
          rw [nI_clamp (by omega)] at H
          refine day 0 (nI (drN (shf (shf x)) W)) _ _ (mI m3 92 (drN (shf (shf x)) W) (nI (drN (shf (shf (shf x))) C))) ey (gI_m2 hI3 (by rw [sg_h ⟨drN (shf (shf x)) W, by omega⟩, nI_toInt (by omega)]; omega)) (frY_s hf3 (by omega)) ?_ (RX_f hR3 (fun a i z1 z2 => mI_ne (by omega))) (f_ext H (lE_cons rfl (lE_cons rfl (lE_cons rfl (lE_cons rfl (lE_cons rfl (lE_cons rfl (lE_cons rfl lE_nil))))))) rfl rfl)
          obtain ⟨a1, a2, a3, a4, a5, a6⟩ := hs3
          refine ⟨by rw [mI_ne (by omega)]; exact a1, by rw [mI_ne (by omega)]; exact a2, by rw [mI_ne (by omega)]; exact a3, fun p hp => ⟨?_, by rw [mI_ne (by omega)]; exact (a4 p hp).2⟩, fun e he => by rw [mI_ne (by omega)]; exact a5 e he, fun e he => by rw [mI_ne (by omega)]; exact a6 e he⟩
          show _ = nI (if p = drN (shf (shf x)) W then drN (shf (shf (shf x))) C else s2.2.2.2.1 p)
          by_cases c : p = drN (shf (shf x)) W
          · rw [if_pos c, c, mI_at]
          · rw [if_neg c, mI_ne (fun q => c q.2)]
            exact (a4 p hp).1
        · -- the council
          rw [nxle (by omega) (by omega)] at c1
          have ey : yrS C S W b s2 x = ((s2.1 ^^^ 2 ^ drN (shf (shf x)) S, s2.2), shf (shf x)) := by
            unfold yrS
            rw [if_pos (by omega)]
          have hp12 : drN (shf (shf x)) S < S := Nat.mod_lt _ hS0
          replace H := f_iconst H k120_79 (v := 1) (by decide)
          replace H := f_goto H k120_80 (t := 84) (by decide)
          replace H := f_istore H k120_84 (l2 := [(7, .int 1), (4, .long (shf x)), (6, .int (nI i)), (8, .int l8), (0, .ref 0), (1, .int (nI N)), (2, .long sd)]) rfl
          replace H := f_lload H k120_86 rfl
          obtain ⟨rv, m4, ⟨rfl, e3⟩, h9_88⟩ := f_ins H k120_88 (by decide +kernel) (as := [.long _]) (r := []) (by rfl) (c_shuf)
          replace H := h9_88
          rw [← e3] at H
          clear e3
          replace H := f_lstore H k120_91 (l2 := [(4, .long (shf (shf x))), (7, .int 1), (6, .int (nI i)), (8, .int l8), (0, .ref 0), (1, .int (nI N)), (2, .long sd)]) rfl
          replace H := f_iload H k120_93 rfl
          replace H := f_if_eq_f H k120_95 (by decide)
          replace H := f_aload_n H k120_98 rfl
          replace H := f_gr H k120_99 (ci := 11) (f := 9) (x := 89) (by decide +kernel) (by decide) (hr 0 9 89 rfl)
          replace H := f_dup H k120_102
          replace H := f_gi H k120_103 (ci := 6) (f := 0) (by decide +kernel) (by decide)
          replace H := f_iconst H k120_106 (v := 1) (by decide)
          replace H := f_lload H k120_107 rfl
          replace H := f_aload_n H k120_109 rfl
          replace H := f_gr H k120_110 (ci := 11) (f := 1) (x := 3) (by decide +kernel) (by decide) (hr 0 1 3 rfl)
          replace H := f_gi H k120_113 (ci := 5) (f := 1) (by decide +kernel) (by decide)
          rw [hT3.2.1, hs3.1] at H
          obtain ⟨rv, m4, ⟨rfl, e3⟩, h9_116⟩ := f_ins H k120_116 (by decide +kernel) (as := [.long _, .int _]) (r := [.int _, .int _, .ref 89]) (by rfl) (c_drawn hS0 (by omega))
          replace H := h9_116
          rw [← e3] at H
          clear e3
          replace H := f_ishl H k120_119
          replace H := f_ixor H k120_120
          replace H := f_put_i H k120_121 (ci := 6) (f := 0) (by decide +kernel) (by decide)
          replace H := f_goto H k120_124 (t := 170) (by decide)
          rw [shl_n (by omega), nx_xor] at H
          refine day 1 l8 _ _ (mI m3 89 0 (nI (s2.1 ^^^ 2 ^ drN (shf (shf x)) S))) ey (gI_x hI3 (by decide +kernel)) (frY_s hf3 (by omega)) ?_ (RX_f hR3 (fun a i z1 z2 => mI_ne (by omega))) (f_ext H (lE_cons rfl (lE_cons rfl (lE_cons rfl (lE_cons rfl (lE_cons rfl (lE_cons rfl (lE_cons rfl lE_nil))))))) rfl rfl)
          obtain ⟨a1, a2, a3, a4, a5, a6⟩ := hs3
          exact ⟨mI_at, by rw [mI_ne (by omega)]; exact a2, by rw [mI_ne (by omega)]; exact a3, fun p hp => ⟨by rw [mI_ne (by omega)]; exact (a4 p hp).1, by rw [mI_ne (by omega)]; exact (a4 p hp).2⟩, fun e he => by rw [mI_ne (by omega)]; exact a5 e he, fun e he => by rw [mI_ne (by omega)]; exact a6 e he⟩
  have hr : rS m := hI.2
  have hd : m.1 89 2 = nI s.2.2.1 := hs.2.2.1
  have hd9 := hv.2.2.1
  replace H := f_aload_n H k120_0 rfl
  obtain ⟨rv, m3, ⟨ho, e3⟩, h9_1⟩ := f_inv H k120_1 (by decide +kernel) (as := []) (b := 0) (r := []) (by rfl) (c_hasTown hr hT.1 (by omega))
  replace H := h9_1
  rw [← e3] at H
  clear e3
  rcases ho with ⟨h0, rfl⟩ | ⟨h0, rfl⟩
  · replace H := f_if_eq_f H k120_4 (by decide)
    replace H := f_iload_n H k120_7 rfl
    replace H := f_iconst H k120_8 (v := 1) (by decide)
    have Hbr := f_icmp_lt H k120_9 (t := 33) (by decide)
    clear H
    rcases Hbr with ⟨c, H⟩ | ⟨c, H⟩
    · rw [Int32.lt_iff_toInt_lt, show (1 : Int32).toInt = 1 by decide] at c
      exact neg _ (fun ⟨_, n, q1, q2, q3, _⟩ => by rw [q3, nI_toInt (by omega)] at c; omega) H
    · rw [Int32.lt_iff_toInt_lt, show (1 : Int32).toInt = 1 by decide] at c
      replace H := f_iload_n H k120_12 rfl
      replace H := f_bipush H k120_13 (v := 30) (by decide)
      have Hbr := f_icmp_gt H k120_15 (t := 33) (by decide)
      clear H
      rcases Hbr with ⟨c2, H⟩ | ⟨c2, H⟩
      · rw [Int32.lt_iff_toInt_lt, show (30 : Int32).toInt = 30 by decide] at c2
        exact neg _ (fun ⟨_, n, q1, q2, q3, _⟩ => by rw [q3, nI_toInt (by omega)] at c2; omega) H
      · rw [Int32.lt_iff_toInt_lt, show (30 : Int32).toInt = 30 by decide] at c2
        obtain ⟨N, hN, hzN⟩ := i_rng (x := z) (L := 30) (by omega) (by omega) (by decide)
        rw [hzN, nI_toInt (by omega)] at c c2
        replace H := f_aload_n H k120_18 rfl
        replace H := f_gr H k120_19 (ci := 11) (f := 9) (x := 89) (by decide +kernel) (by decide) (hr 0 9 89 rfl)
        replace H := f_gi H k120_22 (ci := 6) (f := 2) (by decide +kernel) (by decide)
        replace H := f_iload_n H k120_25 rfl
        replace H := f_iadd H k120_26
        replace H := f_sipush H k120_27 (v := 999) (by decide)
        rw [hd, hzN, r_ad, show (999 : Int32) = nI 999 from rfl] at H
        have Hbr := f_icmp_le H k120_30 (t := 35) (by decide)
        clear H
        rcases Hbr with ⟨c3, H⟩ | ⟨c3, H⟩
        · rw [nxle (by omega) (by omega)] at c3
          replace H := f_lload_n H k120_35 rfl
          replace H := f_lstore H k120_36 (l2 := [(4, .long sd), (0, .ref 0), (1, .int (nI N)), (2, .long sd)]) rfl
          replace H := f_iconst H k120_38 (v := 0) (by decide)
          replace H := f_istore H k120_39 (l2 := [(6, .int 0), (4, .long sd), (0, .ref 0), (1, .int (nI N)), (2, .long sd)]) rfl
          replace H := f_ext H (l' := [(6, .int (nI 0)), (4, .long sd), (7, .int 0), (8, .int 0), (0, .ref 0), (1, .int (nI N)), (2, .long sd)]) (lE_cons rfl (lE_cons rfl (lE_cons rfl (lE_cons rfl (lE_cons rfl (lE_nil)))))) rfl rfl
          exact lp _ N 0 0 0 sd s ks m h0 (by omega) (by omega) hzN (by omega) c3 rfl hv hI (fun _ _ _ => rfl) ⟨hs, x0, hR⟩ rfl H
        · rw [nxle (by omega) (by omega)] at c3
          exact neg _ (fun ⟨_, n, q1, q2, q3, q4⟩ => by
            rw [hzN, nI_inj (by omega) (by omega)] at q3
            omega) (by rw [hzN]; exact H)
  · replace H := f_if_eq_t H k120_4 rfl (t := 33) (by decide)
    exact neg _ (fun ⟨q, _⟩ => by omega) H
