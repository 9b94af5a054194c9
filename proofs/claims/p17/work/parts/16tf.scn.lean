/-! forward: the reference's table of yards -/
theorem c_minI {m : xM} {a b : Nat} (ha : a < 2147483648) (hb : b < 2147483648) : fC 269 [.int (nI a), .int (nI b)] m (fun rv m' => rv = some (.int (nI (min a b))) ∧ m = m') := by
  refine fC_of (by decide) (fun d n P H => ?_)
  replace H := f_iload_n H k269_0 rfl
  replace H := f_iload_n H k269_1 rfl
  have Hbr := f_icmp_gt H k269_2 (t := 9) (by decide)
  clear H
  rcases Hbr with ⟨c, H⟩ | ⟨c, H⟩
  · rw [nxlt hb ha] at c
    replace H := f_iload_n H k269_9 rfl
    replace H := f_iret H k269_10
    exact ⟨_, _, H, by rw [show min a b = b by omega], rfl⟩
  · rw [nxlt hb ha] at c
    replace H := f_iload_n H k269_5 rfl
    replace H := f_goto H k269_6 (t := 10) (by decide)
    replace H := f_iret H k269_10
    exact ⟨_, _, H, by rw [show min a b = a by omega], rfl⟩
/-- the table in memory, up to the corners C -/
def mY (m : xM) (C : Nat) (c : Mt) : Prop := ∀ a b, a < C → b < C → m.1 328 (8 * a + b) = nI (c a b)
theorem mY_s {m : xM} {C : Nat} {c : Mt} {a b v : Nat} (hC : C ≤ 8) (hb : b < C) (h : mY m C c) : mY (mI m 328 (8 * a + b) (nI v)) C (mst c a b v) := by
  intro i j hi hj
  by_cases e : i = a ∧ j = b
  · obtain ⟨rfl, rfl⟩ := e
    rw [mI_at, mst_at]
  · rw [mst_ne e, mI_ne (by omega)]
    exact h i j hi hj
def fr328 (m m2 : xM) : Prop := m2.2 = m.2 ∧ ∀ a i, a ≠ 328 → m2.1 a i = m.1 a i
theorem fr328_s {m m2 : xM} {i : Nat} {v : Int32} (h : fr328 m m2) : fr328 m (mI m2 328 i v) := ⟨h.1, fun a j ha => by rw [mI_ne (by omega)]; exact h.2 a j ha⟩
theorem mT_f {m m2 : xM} {C S : Nat} {A B Y : Nat → Nat} (hT : mT m C S A B Y) (h : ∀ i, (m2.1 314 25 = m.1 314 25 ∧ m2.1 314 26 = m.1 314 26) ∧ m2.1 320 i = m.1 320 i) : mT m2 C S A B Y := by
  obtain ⟨t1, t2, t3, t4, t5⟩ := hT
  exact ⟨by rw [(h 0).1.1]; exact t1, by rw [(h 0).1.2]; exact t2, t3, t4, fun s hs => by rw [(h _).2, (h _).2, (h _).2]; exact t5 s hs⟩
theorem mT_328 {m m2 : xM} {C S : Nat} {A B Y : Nat → Nat} (hT : mT m C S A B Y) (h : fr328 m m2) : mT m2 C S A B Y := mT_f hT (fun i => ⟨⟨h.2 _ _ (by decide), h.2 _ _ (by decide)⟩, h.2 _ _ (by decide)⟩)
set_option maxHeartbeats 4000000 in
theorem c_laysYards {m : xM} {C S w : Nat} {A B Y : Nat → Nat} (hr : rS m) (hT : mT m C S A B Y) (hw : w < 65536) : fC 198 [.ref 314, .int (nI w)] m (fun rv m' => rv = none ∧ fr328 m m' ∧ mY m' C (wyM C S A B Y w)) := by
  refine fC_of (by decide) (fun d n P H => ?_)
  obtain ⟨t1, t2, t3, t4, t5⟩ := id hT
  have hS : ∀ s, s < S → A s ≠ B s ∧ 1 ≤ Y s ∧ Y s ≤ 40 := fun s hs => ⟨(t5 s hs).2.2.2.2.2.1, (t5 s hs).2.2.2.2.2.2.1, (t5 s hs).2.2.2.2.2.2.2⟩
  have hle : ∀ s, s ≤ S → mle 100000 (wsM A B Y w (bas 100000) s) := fun s hs => wsM_le (fun k hk => hS k (by omega))
  -- over all corners
  have lB : ∀ n N, n ≤ N → ∀ o a b z1 (c : Mt) m2, o < C → a < C → b ≤ C → mle 100000 c → fr328 m m2 → rS m2 → mY m2 C (fwB o a c b) → (∀ m2, fr328 m m2 → rS m2 → mY m2 C (fwB o a c C) → xF 198 (xw d) P N 256 [(4, .int (nI C)), (3, .int (nI a)), (2, .int (nI o)), (0, .ref 314), (1, .int z1)] [] m2 → ∃ rv m', P rv m' ∧ rv = none ∧ fr328 m m' ∧ mY m' C (wyM C S A B Y w)) → xF 198 (xw d) P n 190 [(4, .int (nI b)), (3, .int (nI a)), (2, .int (nI o)), (0, .ref 314), (1, .int z1)] [] m2 → ∃ rv m', P rv m' ∧ rv = none ∧ fr328 m m' ∧ mY m' C (wyM C S A B Y w) := by
    intro n
    induction n with
    | zero => exact fun N _ o a b z1 c m2 _ _ _ _ _ _ _ _ H => (xF_0 H).elim
    | succ n ih =>
      intro N hN o a b z1 c m2 ho ha hb hc hf hr hY kk H
      have tC : m2.1 314 25 = nI C := by rw [hf.2 _ _ (by decide)]; exact t1
      replace H := f1_iload H k198_190 rfl
      replace H := f_aload_n H k198_192 rfl
      replace H := f_gi H k198_193 (ci := 12) (f := 25) (by decide +kernel) (by decide)
      rw [tC] at H
      have Hbr := f_icmp_ge H k198_196 (t := 256) (by decide)
      clear H
      rcases Hbr with ⟨c0, H⟩ | ⟨c0, H⟩
      · rw [nxle (by omega) (by omega)] at c0
        have eb : b = C := by omega
        subst eb
        exact kk m2 hf hr hY (f_up H (by omega))
      · rw [nxle (by omega) (by omega)] at c0
        have hle1 := fwB_le (o := o) (a := a) hc b
        have l1 := hle1 a b
        have l2 := hle1 a o
        have l3 := hle1 o b
        replace H := f_aload_n H k198_199 rfl
        replace H := f_gr H k198_200 (ci := 12) (f := 36) (x := 328) (by decide +kernel) (by decide) (hr 314 36 328 rfl)
        replace H := f_bipush H k198_203 (v := 8) (by decide)
        replace H := f_iload_n H k198_205 rfl
        replace H := f_imul H k198_206
        replace H := f_iload H k198_207 rfl
        replace H := f_iadd H k198_209
        replace H := f_aload_n H k198_210 rfl
        replace H := f_gr H k198_211 (ci := 12) (f := 36) (x := 328) (by decide +kernel) (by decide) (hr 314 36 328 rfl)
        replace H := f_bipush H k198_214 (v := 8) (by decide)
        replace H := f_iload_n H k198_216 rfl
        replace H := f_imul H k198_217
        replace H := f_iload H k198_218 rfl
        replace H := f_iadd H k198_220
        have Hob := f_iald H k198_221 (c := 64) (by decide)
        clear H
        obtain ⟨hb221, H⟩ := Hob
        replace H := f_aload_n H k198_222 rfl
        replace H := f_gr H k198_223 (ci := 12) (f := 36) (x := 328) (by decide +kernel) (by decide) (hr 314 36 328 rfl)
        replace H := f_bipush H k198_226 (v := 8) (by decide)
        replace H := f_iload_n H k198_228 rfl
        replace H := f_imul H k198_229
        replace H := f_iload_n H k198_230 rfl
        replace H := f_iadd H k198_231
        have Hob := f_iald H k198_232 (c := 64) (by decide)
        clear H
        obtain ⟨hb232, H⟩ := Hob
        replace H := f_aload_n H k198_233 rfl
        replace H := f_gr H k198_234 (ci := 12) (f := 36) (x := 328) (by decide +kernel) (by decide) (hr 314 36 328 rfl)
        replace H := f_bipush H k198_237 (v := 8) (by decide)
        replace H := f_iload_n H k198_239 rfl
        replace H := f_imul H k198_240
        replace H := f_iload H k198_241 rfl
        replace H := f_iadd H k198_243
        have Hob := f_iald H k198_244 (c := 64) (by decide)
        clear H
        obtain ⟨hb244, H⟩ := Hob
        replace H := f_iadd H k198_245
        rw [show (8 : Int32) = nI 8 from rfl, nI_mul, nI_mul, r_ad, r_ad, r_ad, nI_clamp (by omega), nI_clamp (by omega), nI_clamp (by omega), hY a b (by omega) (by omega), hY a o (by omega) (by omega), hY o b (by omega) (by omega), r_ad] at H
        obtain ⟨rv, m3, ⟨rfl, e3⟩, h9_246⟩ := f_ins H k198_246 (by decide +kernel) (as := [.int _, .int _]) (r := [.int _, .ref 328]) (by rfl) (c_minI (by omega) (by omega))
        replace H := h9_246
        rw [← e3] at H
        clear e3
        have Hob := f_iast H k198_249 (c := 64) (by decide)
        clear H
        obtain ⟨hb249, H⟩ := Hob
        replace H := f_iinc H k198_250 rfl (l2 := [(4, .int (nI b + 1)), (3, .int (nI a)), (2, .int (nI o)), (0, .ref 314), (1, .int z1)]) rfl
        replace H := f_goto H k198_253 (t := 190) (by decide)
        rw [nI_clamp (by omega), nI_s] at H
        exact ih N (by omega) o a (b + 1) z1 c _ ho ha (by omega) hc (fr328_s hf) hr (by rw [fwB_s]; exact mY_s t3 (by omega) hY) kk H
  have lA : ∀ n N, n ≤ N → ∀ o a z1 z4 (c : Mt) m2, o < C → a ≤ C → mle 100000 c → fr328 m m2 → rS m2 → mY m2 C (fwA C o c a) → (∀ z4 m2, fr328 m m2 → rS m2 → mY m2 C (fwA C o c C) → xF 198 (xw d) P N 262 [(3, .int (nI C)), (2, .int (nI o)), (4, .int z4), (0, .ref 314), (1, .int z1)] [] m2 → ∃ rv m', P rv m' ∧ rv = none ∧ fr328 m m' ∧ mY m' C (wyM C S A B Y w)) → xF 198 (xw d) P n 179 [(3, .int (nI a)), (2, .int (nI o)), (4, .int z4), (0, .ref 314), (1, .int z1)] [] m2 → ∃ rv m', P rv m' ∧ rv = none ∧ fr328 m m' ∧ mY m' C (wyM C S A B Y w) := by
    intro n
    induction n with
    | zero => exact fun N _ o a z1 z4 c m2 _ _ _ _ _ _ _ H => (xF_0 H).elim
    | succ n ih =>
      intro N hN o a z1 z4 c m2 ho ha hc hf hr hY kk H
      have tC : m2.1 314 25 = nI C := by rw [hf.2 _ _ (by decide)]; exact t1
      replace H := f1_iload_n H k198_179 rfl
      replace H := f_aload_n H k198_180 rfl
      replace H := f_gi H k198_181 (ci := 12) (f := 25) (by decide +kernel) (by decide)
      rw [tC] at H
      have Hbr := f_icmp_ge H k198_184 (t := 262) (by decide)
      clear H
      rcases Hbr with ⟨c0, H⟩ | ⟨c0, H⟩
      · rw [nxle (by omega) (by omega)] at c0
        have eb : a = C := by omega
        subst eb
        exact kk z4 m2 hf hr hY (f_up H (by omega))
      · rw [nxle (by omega) (by omega)] at c0
        replace H := f_iconst H k198_187 (v := 0) (by decide)
        replace H := f_istore H k198_188 (l2 := [(4, .int 0), (3, .int (nI a)), (2, .int (nI o)), (0, .ref 314), (1, .int z1)]) rfl
        refine lB n n (Nat.le_refl _) o a 0 z1 (fwA C o c a) m2 ho (by omega) (Nat.zero_le _) (fwA_le hc a) hf hr hY (fun m3 hf hr hY H => ?_) H
        replace H := f_iinc H k198_256 rfl (l2 := [(3, .int (nI a + 1)), (4, .int (nI C)), (2, .int (nI o)), (0, .ref 314), (1, .int z1)]) rfl
        replace H := f_goto H k198_259 (t := 179) (by decide)
        rw [nI_s] at H
        exact ih N (by omega) o (a + 1) z1 (nI C) c m3 ho (by omega) hc hf hr (by rw [fwA_s]; exact hY) kk (f_ext H (lE_cons rfl (lE_cons rfl (lE_cons rfl (lE_cons rfl (lE_cons rfl lE_nil))))) rfl rfl)
  have lO : ∀ n o z1 z3 z4 (c : Mt) m2, o ≤ C → mle 100000 c → c = wsM A B Y w (bas 100000) S → fr328 m m2 → rS m2 → mY m2 C (fwO C c o) → xF 198 (xw d) P n 169 [(2, .int (nI o)), (3, .int z3), (4, .int z4), (0, .ref 314), (1, .int z1)] [] m2 → ∃ rv m', P rv m' ∧ rv = none ∧ fr328 m m' ∧ mY m' C (wyM C S A B Y w) := by
    intro n
    induction n with
    | zero => exact fun o z1 z3 z4 c m2 _ _ _ _ _ _ H => (xF_0 H).elim
    | succ n ih =>
      intro o z1 z3 z4 c m2 ho hc ec hf hr hY H
      have tC : m2.1 314 25 = nI C := by rw [hf.2 _ _ (by decide)]; exact t1
      replace H := f1_iload_n H k198_169 rfl
      replace H := f_aload_n H k198_170 rfl
      replace H := f_gi H k198_171 (ci := 12) (f := 25) (by decide +kernel) (by decide)
      rw [tC] at H
      have Hbr := f_icmp_ge H k198_174 (t := 268) (by decide)
      clear H
      rcases Hbr with ⟨c0, H⟩ | ⟨c0, H⟩
      · rw [nxle (by omega) (by omega)] at c0
        have eb : o = C := by omega
        subst eb
        replace H := f_ret H k198_268
        exact ⟨_, _, H, rfl, hf, by rw [wyM, ← ec]; exact hY⟩
      · rw [nxle (by omega) (by omega)] at c0
        replace H := f_iconst H k198_177 (v := 0) (by decide)
        replace H := f_istore_n H k198_178 (l2 := [(3, .int 0), (2, .int (nI o)), (4, .int z4), (0, .ref 314), (1, .int z1)]) rfl
        refine lA n n (Nat.le_refl _) o 0 z1 z4 (fwO C c o) m2 (by omega) (Nat.zero_le _) (fwO_le hc o) hf hr hY (fun z4 m3 hf hr hY H => ?_) H
        replace H := f_iinc H k198_262 rfl (l2 := [(2, .int (nI o + 1)), (3, .int (nI C)), (4, .int z4), (0, .ref 314), (1, .int z1)]) rfl
        replace H := f_goto H k198_265 (t := 169) (by decide)
        rw [nI_s] at H
        exact ih (o + 1) z1 (nI C) z4 c m3 (by omega) hc ec hf hr (by rw [fwO_s]; exact hY) H
  -- over the streets
  have lS : ∀ n s z3 z4 m2, s ≤ S → fr328 m m2 → rS m2 → mY m2 C (wsM A B Y w (bas 100000) s) → xF 198 (xw d) P n 57 [(2, .int (nI s)), (3, .int z3), (4, .int z4), (0, .ref 314), (1, .int (nI w))] [] m2 → ∃ rv m', P rv m' ∧ rv = none ∧ fr328 m m' ∧ mY m' C (wyM C S A B Y w) := by
    intro n
    induction n with
    | zero => exact fun s z3 z4 m2 _ _ _ _ H => (xF_0 H).elim
    | succ n ih =>
      intro s z3 z4 m2 hs hf hr hY H
      have tS : m2.1 314 26 = nI S := by rw [hf.2 _ _ (by decide)]; exact t2
      replace H := f1_iload_n H k198_57 rfl
      replace H := f_aload_n H k198_58 rfl
      replace H := f_gi H k198_59 (ci := 12) (f := 26) (by decide +kernel) (by decide)
      rw [tS] at H
      have Hbr := f_icmp_ge H k198_62 (t := 167) (by decide)
      clear H
      rcases Hbr with ⟨c0, H⟩ | ⟨c0, H⟩
      · rw [nxle (by omega) (by omega)] at c0
        have eb : s = S := by omega
        subst eb
        replace H := f_iconst H k198_167 (v := 0) (by decide)
        replace H := f_istore_n H k198_168 (l2 := [(2, .int 0), (3, .int z3), (4, .int z4), (0, .ref 314), (1, .int (nI w))]) rfl
        exact lO n 0 (nI w) z3 z4 _ m2 (Nat.zero_le _) (hle s (Nat.le_refl _)) rfl hf hr hY H
      · rw [nxle (by omega) (by omega)] at c0
        obtain ⟨s1, s2, s3, s4, s5, s6, s7, s8⟩ := t5 s (by omega)
        rw [← hf.2 320 _ (by decide)] at s1 s2 s3
        replace H := f_iload_n H k198_65 rfl
        replace H := f_iload_n H k198_66 rfl
        obtain ⟨rv, m3, ⟨rfl, e3⟩, h9_67⟩ := f_ins H k198_67 (by decide +kernel) (as := [.int _, .int _]) (r := []) (by rfl) (c_hasN (by omega) (by omega))
        replace H := h9_67
        rw [← e3] at H
        clear e3
        cases hb : w.testBit s with
        | true =>
          rw [hb] at H
          replace H := f_if_eq_f H k198_70 (by decide)
          replace H := f_goto H k198_73 (t := 161) (by decide)
          replace H := f_iinc H k198_161 rfl (l2 := [(2, .int (nI s + 1)), (3, .int z3), (4, .int z4), (0, .ref 314), (1, .int (nI w))]) rfl
          replace H := f_goto H k198_164 (t := 57) (by decide)
          rw [nI_s] at H
          exact ih (s + 1) z3 z4 m2 (by omega) hf hr (by rw [wsM_t hb]; exact hY) H
        | false =>
          rw [hb] at H
          replace H := f_if_eq_t H k198_70 rfl (t := 76) (by decide)
          have l1 := hle s (by omega) (A s) (B s)
          replace H := f_bipush H k198_76 (v := 8) (by decide)
          replace H := f_aload_n H k198_78 rfl
          replace H := f_gr H k198_79 (ci := 12) (f := 19) (x := 320) (by decide +kernel) (by decide) (hr 314 19 320 rfl)
          replace H := f_iconst H k198_82 (v := 4) (by decide)
          replace H := f_iload_n H k198_83 rfl
          replace H := f_imul H k198_84
          have Hob := f_iald H k198_85 (c := 48) (by decide)
          clear H
          obtain ⟨hb85, H⟩ := Hob
          replace H := f_imul H k198_86
          replace H := f_aload_n H k198_87 rfl
          replace H := f_gr H k198_88 (ci := 12) (f := 19) (x := 320) (by decide +kernel) (by decide) (hr 314 19 320 rfl)
          replace H := f_iconst H k198_91 (v := 4) (by decide)
          replace H := f_iload_n H k198_92 rfl
          replace H := f_imul H k198_93
          replace H := f_iconst H k198_94 (v := 1) (by decide)
          replace H := f_iadd H k198_95
          have Hob := f_iald H k198_96 (c := 48) (by decide)
          clear H
          obtain ⟨hb96, H⟩ := Hob
          replace H := f_iadd H k198_97
          rw [show (4 : Int32) = nI 4 from rfl, nI_mul, nI_s, nI_clamp (by omega), nI_clamp (by omega), s1, s2, show (8 : Int32) = nI 8 from rfl, nI_mul, r_ad] at H
          replace H := f_istore_n H k198_98 (l2 := [(3, .int (nI (8 * A s + B s))), (2, .int (nI s)), (4, .int z4), (0, .ref 314), (1, .int (nI w))]) rfl
          replace H := f_bipush H k198_99 (v := 8) (by decide)
          replace H := f_aload_n H k198_101 rfl
          replace H := f_gr H k198_102 (ci := 12) (f := 19) (x := 320) (by decide +kernel) (by decide) (hr 314 19 320 rfl)
          replace H := f_iconst H k198_105 (v := 4) (by decide)
          replace H := f_iload_n H k198_106 rfl
          replace H := f_imul H k198_107
          replace H := f_iconst H k198_108 (v := 1) (by decide)
          replace H := f_iadd H k198_109
          have Hob := f_iald H k198_110 (c := 48) (by decide)
          clear H
          obtain ⟨hb110, H⟩ := Hob
          replace H := f_imul H k198_111
          replace H := f_aload_n H k198_112 rfl
          replace H := f_gr H k198_113 (ci := 12) (f := 19) (x := 320) (by decide +kernel) (by decide) (hr 314 19 320 rfl)
          replace H := f_iconst H k198_116 (v := 4) (by decide)
          replace H := f_iload_n H k198_117 rfl
          replace H := f_imul H k198_118
          have Hob := f_iald H k198_119 (c := 48) (by decide)
          clear H
          obtain ⟨hb119, H⟩ := Hob
          replace H := f_iadd H k198_120
          rw [show (4 : Int32) = nI 4 from rfl, nI_mul, nI_s, nI_clamp (by omega), nI_clamp (by omega), s1, s2, show (8 : Int32) = nI 8 from rfl, nI_mul, r_ad] at H
          replace H := f_istore H k198_121 (l2 := [(4, .int (nI (8 * B s + A s))), (3, .int (nI (8 * A s + B s))), (2, .int (nI s)), (0, .ref 314), (1, .int (nI w))]) rfl
          replace H := f_aload_n H k198_123 rfl
          replace H := f_gr H k198_124 (ci := 12) (f := 36) (x := 328) (by decide +kernel) (by decide) (hr 314 36 328 rfl)
          replace H := f_iload_n H k198_127 rfl
          replace H := f_aload_n H k198_128 rfl
          replace H := f_gr H k198_129 (ci := 12) (f := 36) (x := 328) (by decide +kernel) (by decide) (hr 314 36 328 rfl)
          replace H := f_iload_n H k198_132 rfl
          have Hob := f_iald H k198_133 (c := 64) (by decide)
          clear H
          obtain ⟨hb133, H⟩ := Hob
          replace H := f_aload_n H k198_134 rfl
          replace H := f_gr H k198_135 (ci := 12) (f := 19) (x := 320) (by decide +kernel) (by decide) (hr 314 19 320 rfl)
          replace H := f_iconst H k198_138 (v := 4) (by decide)
          replace H := f_iload_n H k198_139 rfl
          replace H := f_imul H k198_140
          replace H := f_iconst H k198_141 (v := 2) (by decide)
          replace H := f_iadd H k198_142
          have Hob := f_iald H k198_143 (c := 48) (by decide)
          clear H
          obtain ⟨hb143, H⟩ := Hob
          rw [show (4 : Int32) = nI 4 from rfl, nI_mul, show (2 : Int32) = nI 2 from rfl, r_ad, nI_clamp (by omega), nI_clamp (by omega), s3, hY (A s) (B s) s4 s5] at H
          obtain ⟨rv, m3, ⟨rfl, e3⟩, h9_144⟩ := f_ins H k198_144 (by decide +kernel) (as := [.int _, .int _]) (r := [.int _, .ref 328]) (by rfl) (c_minI (by omega) (by omega))
          replace H := h9_144
          rw [← e3] at H
          clear e3
          have Hob := f_iast H k198_147 (c := 64) (by decide)
          clear H
          obtain ⟨hb147, H⟩ := Hob
          replace H := f_aload_n H k198_148 rfl
          replace H := f_gr H k198_149 (ci := 12) (f := 36) (x := 328) (by decide +kernel) (by decide) (hr 314 36 328 rfl)
          replace H := f_iload H k198_152 rfl
          replace H := f_aload_n H k198_154 rfl
          replace H := f_gr H k198_155 (ci := 12) (f := 36) (x := 328) (by decide +kernel) (by decide) (hr 314 36 328 rfl)
          replace H := f_iload_n H k198_158 rfl
          have Hob := f_iald H k198_159 (c := 64) (by decide)
          clear H
          obtain ⟨hb159, H⟩ := Hob
          have Hob := f_iast H k198_160 (c := 64) (by decide)
          clear H
          obtain ⟨hb160, H⟩ := Hob
          replace H := f_iinc H k198_161 rfl (l2 := [(2, .int (nI s + 1)), (4, .int (nI (8 * B s + A s))), (3, .int (nI (8 * A s + B s))), (0, .ref 314), (1, .int (nI w))]) rfl
          replace H := f_goto H k198_164 (t := 57) (by decide)
          rw [nI_clamp (by omega), nI_clamp (by omega), mI_at, nI_s] at H
          refine ih (s + 1) _ _ (mI (mI m2 328 (8 * A s + B s) _) 328 (8 * B s + A s) _) (by omega) (fr328_s (fr328_s hf)) hr ?_ (f_ext H (lE_cons rfl (lE_cons rfl (lE_cons rfl (lE_cons rfl (lE_cons rfl lE_nil))))) rfl rfl)
          rw [wsM_f hb]
          exact mY_s t3 s4 (mY_s t3 s5 hY)
  -- the table laid
  have b2 : ∀ n N, n ≤ N → ∀ a b z1 m2, a < C → b ≤ C → fr328 m m2 → rS m2 → (∀ i j, i < C → j < C → (i < a ∨ (i = a ∧ j < b)) → m2.1 328 (8 * i + j) = nI (bas 100000 i j)) → (∀ m2, fr328 m m2 → rS m2 → (∀ i j, i < C → j < C → i < a + 1 → m2.1 328 (8 * i + j) = nI (bas 100000 i j)) → xF 198 (xw d) P N 49 [(3, .int (nI C)), (2, .int (nI a)), (0, .ref 314), (1, .int z1)] [] m2 → ∃ rv m', P rv m' ∧ rv = none ∧ fr328 m m' ∧ mY m' C (wyM C S A B Y w)) → xF 198 (xw d) P n 12 [(3, .int (nI b)), (2, .int (nI a)), (0, .ref 314), (1, .int z1)] [] m2 → ∃ rv m', P rv m' ∧ rv = none ∧ fr328 m m' ∧ mY m' C (wyM C S A B Y w) := by
    intro n
    induction n with
    | zero => exact fun N _ a b z1 m2 _ _ _ _ _ _ H => (xF_0 H).elim
    | succ n ih =>
      intro N hN a b z1 m2 ha hb hf hr hY kk H
      have tC : m2.1 314 25 = nI C := by rw [hf.2 _ _ (by decide)]; exact t1
      replace H := f1_iload_n H k198_12 rfl
      replace H := f_aload_n H k198_13 rfl
      replace H := f_gi H k198_14 (ci := 12) (f := 25) (by decide +kernel) (by decide)
      rw [tC] at H
      have Hbr := f_icmp_ge H k198_17 (t := 49) (by decide)
      clear H
      rcases Hbr with ⟨c0, H⟩ | ⟨c0, H⟩
      · rw [nxle (by omega) (by omega)] at c0
        have eb : b = C := by omega
        subst eb
        exact kk m2 hf hr (fun i j hi hj h => hY i j hi hj (by omega)) (f_up H (by omega))
      · rw [nxle (by omega) (by omega)] at c0
        have go : ∀ n, n ≤ N → (n < N) → True := fun _ _ _ => trivial
        have nx : ∀ v : Int32, v = nI (bas 100000 a b) → xF 198 (xw d) P n 42 [(3, .int (nI b)), (2, .int (nI a)), (0, .ref 314), (1, .int z1)] [.int v, .int (nI (8 * a + b)), .ref 328] m2 → ∃ rv m', P rv m' ∧ rv = none ∧ fr328 m m' ∧ mY m' C (wyM C S A B Y w) := by
          intro v ev H
          have Hob := f_iast H k198_42 (c := 64) (by decide)
          clear H
          obtain ⟨hb42, H⟩ := Hob
          replace H := f_iinc H k198_43 rfl (l2 := [(3, .int (nI b + 1)), (2, .int (nI a)), (0, .ref 314), (1, .int z1)]) rfl
          replace H := f_goto H k198_46 (t := 12) (by decide)
          rw [nI_clamp (by omega), nI_s] at H
          refine ih N (by omega) a (b + 1) z1 (mI m2 328 (8 * a + b) v) ha (by omega) (fr328_s hf) hr (fun i j hi hj h => ?_) kk H
          by_cases e : i = a ∧ j = b
          · obtain ⟨rfl, rfl⟩ := e
            rw [mI_at, ev]
          · rw [mI_ne (by omega)]
            exact hY i j hi hj (by omega)
        replace H := f_aload_n H k198_20 rfl
        replace H := f_gr H k198_21 (ci := 12) (f := 36) (x := 328) (by decide +kernel) (by decide) (hr 314 36 328 rfl)
        replace H := f_bipush H k198_24 (v := 8) (by decide)
        replace H := f_iload_n H k198_26 rfl
        replace H := f_imul H k198_27
        replace H := f_iload_n H k198_28 rfl
        replace H := f_iadd H k198_29
        replace H := f_iload_n H k198_30 rfl
        replace H := f_iload_n H k198_31 rfl
        rw [show (8 : Int32) = nI 8 from rfl, nI_mul, r_ad] at H
        have Hbr := f_icmp_ne H k198_32 (t := 39) (by decide)
        clear H
        rcases Hbr with ⟨c1, H⟩ | ⟨c1, H⟩
        · rw [nI_inj (by omega) (by omega)] at c1
          replace H := f_ldc_w H k198_39 (v := 100000) (by decide +kernel)
          exact nx _ (by rw [show bas 100000 a b = 100000 from if_neg c1]; rfl) H
        · rw [nI_inj (by omega) (by omega)] at c1
          replace H := f_iconst H k198_35 (v := 0) (by decide)
          replace H := f_goto H k198_36 (t := 42) (by decide)
          exact nx _ (by rw [show bas 100000 a b = 0 from if_pos c1]; rfl) H
  have b1 : ∀ n a z3 z1 m2, a ≤ C → z1 = nI w → fr328 m m2 → rS m2 → (∀ i j, i < C → j < C → i < a → m2.1 328 (8 * i + j) = nI (bas 100000 i j)) → xF 198 (xw d) P n 2 [(2, .int (nI a)), (3, .int z3), (0, .ref 314), (1, .int z1)] [] m2 → ∃ rv m', P rv m' ∧ rv = none ∧ fr328 m m' ∧ mY m' C (wyM C S A B Y w) := by
    intro n
    induction n with
    | zero => exact fun a z3 z1 m2 _ _ _ _ _ H => (xF_0 H).elim
    | succ n ih =>
      intro a z3 z1 m2 ha ez hf hr hY H
      have tC : m2.1 314 25 = nI C := by rw [hf.2 _ _ (by decide)]; exact t1
      replace H := f1_iload_n H k198_2 rfl
      replace H := f_aload_n H k198_3 rfl
      replace H := f_gi H k198_4 (ci := 12) (f := 25) (by decide +kernel) (by decide)
      rw [tC] at H
      have Hbr := f_icmp_ge H k198_7 (t := 55) (by decide)
      clear H
      rcases Hbr with ⟨c0, H⟩ | ⟨c0, H⟩
      · rw [nxle (by omega) (by omega)] at c0
        have eb : a = C := by omega
        subst eb
        subst ez
        replace H := f_iconst H k198_55 (v := 0) (by decide)
        replace H := f_istore_n H k198_56 (l2 := [(2, .int 0), (3, .int z3), (0, .ref 314), (1, .int (nI w))]) rfl
        replace H := f_ext H (l' := [(2, .int 0), (3, .int z3), (4, .int 0), (0, .ref 314), (1, .int (nI w))]) (lE_cons rfl (lE_cons rfl (lE_cons rfl (lE_cons rfl (lE_nil))))) rfl rfl
        exact lS n 0 z3 0 m2 (Nat.zero_le _) hf hr (fun i j hi hj => hY i j hi hj hi) H
      · rw [nxle (by omega) (by omega)] at c0
        replace H := f_iconst H k198_10 (v := 0) (by decide)
        replace H := f_istore_n H k198_11 (l2 := [(3, .int 0), (2, .int (nI a)), (0, .ref 314), (1, .int z1)]) rfl
        refine b2 n n (Nat.le_refl _) a 0 z1 m2 (by omega) (Nat.zero_le _) hf hr (fun i j hi hj h => hY i j hi hj (by omega)) (fun m3 hf hr hY H => ?_) H
        replace H := f_iinc H k198_49 rfl (l2 := [(2, .int (nI a + 1)), (3, .int (nI C)), (0, .ref 314), (1, .int z1)]) rfl
        replace H := f_goto H k198_52 (t := 2) (by decide)
        rw [nI_s] at H
        exact ih (a + 1) (nI C) z1 m3 (by omega) ez hf hr hY H
  replace H := f_iconst H k198_0 (v := 0) (by decide)
  replace H := f_istore_n H k198_1 (l2 := [(2, .int 0), (0, .ref 314), (1, .int (nI w))]) rfl
  replace H := f_ext H (l' := [(2, .int 0), (3, .int 0), (0, .ref 314), (1, .int (nI w))]) (lE_cons rfl (lE_cons rfl (lE_cons rfl (lE_nil)))) rfl rfl
  exact b1 n 0 0 (nI w) m (Nat.zero_le _) rfl ⟨rfl, fun _ _ _ => rfl⟩ hr (fun i j _ _ h => absurd h (Nat.not_lt_zero _)) H
