
/-! forward: a day of the trial scene, the reference: the scene's texts over its row, and who lapses -/
theorem c_drawsT {m : xM} {C S w p h e : Nat} {A B Y : Nat → Nat} {t : Mt} (hr : rS m) (hT : mT m C S A B Y) (hw : m.1 327 24 = nI w) (hw2 : w < 65536) (hY : mY m C t) (ht : mle 100000 t) (hp : p < 4) (hh : m.1 327 (16 + 2 * p) = nI h) (hC : h < C) (he : e < C) : fC 202 [.ref 314, .ref 327, .int (nI p), .int (nI e)] m (fun rv m' => ∃ v : Int32, rv = some (.int v) ∧ ((v = -1000000 ∧ ¬ isG (chp A B S w C) t 100000 h e) ∨ (v ≠ -1000000 ∧ isG (chp A B S w C) t 100000 h e))) := by
  refine fC_of (by decide) (fun d n P H => ?_)
  have hC8 : C ≤ 8 := hT.2.2.1
  have hch : chp A B S w C < 256 := Nat.lt_of_lt_of_le (chp_lt C) (Nat.pow_le_pow_right (by omega) hC8 : (2 : Nat) ^ C ≤ 2 ^ 8)
  have c24 : (24 : Int32).toNatClampNeg = 24 := by decide
  have hid : ∀ n l4 l5, ¬ isG (chp A B S w C) t 100000 h e → xF 202 (xw d) P n 41 [(5, .int l5), (4, .int l4), (0, .ref 314), (1, .ref 327), (2, .int (nI p)), (3, .int (nI e))] [] m → ∃ rv m', P rv m' ∧ ∃ v : Int32, rv = some (.int v) ∧ ((v = -1000000 ∧ ¬ isG (chp A B S w C) t 100000 h e) ∨ (v ≠ -1000000 ∧ isG (chp A B S w C) t 100000 h e)) := by
    intro n l4 l5 hn H
    replace H := f_ldc_w H k202_41 (v := -1000000) (by decide +kernel)
    replace H := f_iret H k202_44
    exact ⟨_, _, H, _, rfl, Or.inl ⟨rfl, hn⟩⟩
  replace H := f_aload_n H k202_0 rfl
  replace H := f_aload_n H k202_1 rfl
  replace H := f_bipush H k202_2 (v := 24) (by decide)
  have Hob := f_iald H k202_4 (c := 208) (by decide)
  clear H
  obtain ⟨hb4, H⟩ := Hob
  rw [c24, hw] at H
  obtain ⟨rv, m3, ⟨rfl, e3⟩, h9_5⟩ := f_inv H k202_5 (by decide +kernel) (as := [.int _]) (b := 314) (r := []) (by rfl) (c_mchapels hr hT hw2)
  replace H := h9_5
  rw [← e3] at H
  clear e3
  replace H := f_istore H k202_8 (l2 := [(4, .int (nI (chp A B S w C))), (0, .ref 314), (1, .ref 327), (2, .int (nI p)), (3, .int (nI e))]) rfl
  replace H := f_aload_n H k202_10 rfl
  replace H := f_bipush H k202_11 (v := 16) (by decide)
  replace H := f_iconst H k202_13 (v := 2) (by decide)
  replace H := f_iload_n H k202_14 rfl
  replace H := f_imul H k202_15
  replace H := f_iadd H k202_16
  replace H := f_iconst H k202_17 (v := 0) (by decide)
  replace H := f_iadd H k202_18
  have Hob := f_iald H k202_19 (c := 208) (by decide)
  clear H
  obtain ⟨hb19, H⟩ := Hob
  rw [show (2 : Int32) = nI 2 from rfl, nI_mul, show (16 : Int32) = nI 16 from rfl, r_ad, show (0 : Int32) = nI 0 from rfl, r_ad, nI_clamp (by omega), show m.1 327 (16 + 2 * p + 0) = nI h from hh] at H
  replace H := f_istore H k202_20 (l2 := [(5, .int (nI h)), (4, .int (nI (chp A B S w C))), (0, .ref 314), (1, .ref 327), (2, .int (nI p)), (3, .int (nI e))]) rfl
  replace H := f_iload H k202_22 rfl
  replace H := f_iload_n H k202_24 rfl
  obtain ⟨rv, m3, ⟨rfl, e3⟩, h9_25⟩ := f_ins H k202_25 (by decide +kernel) (as := [.int _, .int _]) (r := []) (by rfl) (c_hasN (by omega) (by omega))
  replace H := h9_25
  rw [← e3] at H
  clear e3
  cases hb : (chp A B S w C).testBit e with
  | false =>
    rw [hb] at H
    replace H := f_if_eq_t H k202_28 rfl (t := 41) (by decide)
    exact hid _ _ _ (fun q => absurd (hb.symm.trans q.1) (by decide)) H
  | true =>
    rw [hb] at H
    replace H := f_if_eq_f H k202_28 (by decide)
    replace H := f_aload_n H k202_31 rfl
    replace H := f_iload H k202_32 rfl
    replace H := f_iload_n H k202_34 rfl
    obtain ⟨rv, m3, ⟨rfl, e3⟩, h9_35⟩ := f_inv H k202_35 (by decide +kernel) (as := [.int _, .int _]) (b := 314) (r := []) (by rfl) (c_mcan hr hC8 hC he hY ht)
    replace H := h9_35
    rw [← e3] at H
    clear e3
    by_cases c1 : t h e < 100000
    · rw [if_pos c1] at H
      have hg : isG (chp A B S w C) t 100000 h e := ⟨hb, c1⟩
      have k99 : (-99 : Int32).toInt = -99 := by decide
      have kM : (-1000000 : Int32).toInt = -1000000 := by decide
      have tail : ∀ n l9 Ls m2, xF 202 (xw d) P n 135 ((9, .int l9) :: Ls) [] m2 → ∃ rv m', P rv m' ∧ ∃ v : Int32, rv = some (.int v) ∧ ((v = -1000000 ∧ ¬ isG (chp A B S w C) t 100000 h e) ∨ (v ≠ -1000000 ∧ isG (chp A B S w C) t 100000 h e)) := by
        intro n l9 Ls m2 H
        replace H := f_bipush H k202_135 (v := -99) (by decide)
        replace H := f_bipush H k202_137 (v := 99) (by decide)
        replace H := f_iload H k202_139 rfl
        obtain ⟨rv, m3, ⟨⟨z, rfl⟩, e3⟩, h9_141⟩ := f_ins H k202_141 (by decide +kernel) (as := [.int _, .int _]) (r := [.int _]) (by rfl) (c_minA)
        replace H := h9_141
        obtain ⟨rv, m4, ⟨⟨z2, rfl, hz2⟩, e4⟩, h9_144⟩ := f_ins H k202_144 (by decide +kernel) (as := [.int _, .int _]) (r := []) (by rfl) (c_maxA)
        replace H := h9_144
        replace H := f_iret H k202_147
        exact ⟨_, _, H, _, rfl, Or.inr ⟨fun q => by rw [q, k99, kM] at hz2; omega, hg⟩⟩
      replace H := f_if_ne_t H k202_38 (by decide) (t := 45) (by decide)
      replace H := f_aload_n H k202_45 rfl
      replace H := f_bipush H k202_46 (v := 16) (by decide)
      replace H := f_iconst H k202_48 (v := 2) (by decide)
      replace H := f_iload_n H k202_49 rfl
      replace H := f_imul H k202_50
      replace H := f_iadd H k202_51
      replace H := f_iconst H k202_52 (v := 1) (by decide)
      replace H := f_iadd H k202_53
      have Hob := f_iald H k202_54 (c := 208) (by decide)
      clear H
      obtain ⟨hb54, H⟩ := Hob
      replace H := f_istore H k202_55 (l2 := [(6, .int _), (5, .int (nI h)), (4, .int (nI (chp A B S w C))), (0, .ref 314), (1, .ref 327), (2, .int (nI p)), (3, .int (nI e))]) rfl
      replace H := f_aload_n H k202_57 rfl
      replace H := f_iconst H k202_58 (v := 2) (by decide)
      replace H := f_iload_n H k202_59 rfl
      replace H := f_imul H k202_60
      replace H := f_iconst H k202_61 (v := 0) (by decide)
      replace H := f_iadd H k202_62
      have Hob := f_iald H k202_63 (c := 208) (by decide)
      clear H
      obtain ⟨hb63, H⟩ := Hob
      replace H := f_istore H k202_64 (l2 := [(7, .int _), (6, .int _), (5, .int (nI h)), (4, .int (nI (chp A B S w C))), (0, .ref 314), (1, .ref 327), (2, .int (nI p)), (3, .int (nI e))]) rfl
      replace H := f_aload_n H k202_66 rfl
      replace H := f_iconst H k202_67 (v := 2) (by decide)
      replace H := f_iload_n H k202_68 rfl
      replace H := f_imul H k202_69
      replace H := f_iconst H k202_70 (v := 1) (by decide)
      replace H := f_iadd H k202_71
      have Hob := f_iald H k202_72 (c := 208) (by decide)
      clear H
      obtain ⟨hb72, H⟩ := Hob
      replace H := f_istore H k202_73 (l2 := [(8, .int _), (7, .int _), (6, .int _), (5, .int (nI h)), (4, .int (nI (chp A B S w C))), (0, .ref 314), (1, .ref 327), (2, .int (nI p)), (3, .int (nI e))]) rfl
      replace H := f_iload H k202_75 rfl
      replace H := f_iload H k202_77 rfl
      replace H := f_iconst H k202_79 (v := 2) (by decide)
      replace H := f_idiv H k202_80
      replace H := f_iadd H k202_81
      replace H := f_iconst H k202_82 (v := 2) (by decide)
      replace H := f_iload H k202_83 rfl
      replace H := f_imul H k202_85
      replace H := f_iadd H k202_86
      replace H := f_aload_n H k202_87 rfl
      replace H := f_iload H k202_88 rfl
      replace H := f_iload_n H k202_90 rfl
      obtain ⟨rv, m3, ⟨rfl, e3⟩, h9_91⟩ := f_inv H k202_91 (by decide +kernel) (as := [.int _, .int _]) (b := 314) (r := [.int _]) (by rfl) (c_far0 hr hC8 hC he hY)
      replace H := h9_91
      rw [← e3] at H
      clear e3
      replace H := f_iconst H k202_94 (v := 3) (by decide)
      replace H := f_idiv H k202_95
      replace H := f_isub H k202_96
      replace H := f_istore H k202_97 (l2 := [(9, .int _), (8, .int _), (7, .int _), (6, .int _), (5, .int (nI h)), (4, .int (nI (chp A B S w C))), (0, .ref 314), (1, .ref 327), (2, .int (nI p)), (3, .int (nI e))]) rfl
      replace H := f_aload_n H k202_99 rfl
      replace H := f_gi H k202_100 (ci := 12) (f := 34) (by decide +kernel) (by decide)
      replace H := f_iconst H k202_103 (v := -1) (by decide)
      have Hbr := f_icmp_eq H k202_104 (t := 135) (by decide)
      clear H
      rcases Hbr with ⟨c, H⟩ | ⟨c, H⟩
      · exact tail _ _ _ _ H
      · replace H := f_aload_n H k202_107 rfl
        replace H := f_aload_n H k202_108 rfl
        replace H := f_iload H k202_109 rfl
        replace H := f_iload_n H k202_111 rfl
        obtain ⟨rv, m3, ⟨rfl, e3⟩, h9_112⟩ := f_inv H k202_112 (by decide +kernel) (as := [.int _, .int _]) (b := 314) (r := [.ref 314]) (by rfl) (c_far0 hr hC8 hC he hY)
        replace H := h9_112
        rw [← e3] at H
        clear e3
        replace H := f_iload H k202_115 rfl
        replace H := f_iload H k202_117 rfl
        replace H := f_iload H k202_119 rfl
        replace H := f_iload H k202_121 rfl
        obtain ⟨rv, m3, ⟨rfl, e3⟩, h9_123⟩ := f_ins H k202_123 (by decide +kernel) (as := [.int _]) (r := [.int _, .int _, .int _, .int _, .ref 314]) (by rfl) (c_bitCount (v := chp A B S w C) (by omega))
        replace H := h9_123
        rw [← e3] at H
        clear e3
        replace H := f_aload_n H k202_126 rfl
        replace H := f_bipush H k202_127 (v := 26) (by decide)
        have Hob := f_iald H k202_129 (c := 208) (by decide)
        clear H
        obtain ⟨hb129, H⟩ := Hob
        obtain ⟨rv, m3, ⟨z, rfl⟩, h9_130⟩ := f_inv H k202_130 (by decide +kernel) (as := [.int _, .int _, .int _, .int _, .int _, .int _]) (b := 314) (r := []) (by rfl) (fC_int (j := 201) (by decide) (by decide +kernel))
        replace H := h9_130
        replace H := f_istore H k202_133 (l2 := [(9, .int _), (8, .int _), (7, .int _), (6, .int _), (5, .int (nI h)), (4, .int (nI (chp A B S w C))), (0, .ref 314), (1, .ref 327), (2, .int (nI p)), (3, .int (nI e))]) rfl
        exact tail _ _ _ _ H
    · rw [if_neg c1] at H
      replace H := f_if_ne_f H k202_38 rfl
      exact hid _ _ _ (fun q => c1 q.2) H
def fr63T (m m2 : xM) : Prop := ∀ a i, a < 314 ∨ a = 315 ∨ a = 320 ∨ a = 322 ∨ a = 324 ∨ a = 325 ∨ a = 327 ∨ a = 328 ∨ (331 ≤ a ∧ a ≤ 333) ∨ (a = 314 ∧ ¬ (8 ≤ i ∧ i < 18)) → m2.1 a i = m.1 a i
theorem fr63_tT {m m1 m2 : xM} (h : fr63T m m1) (g : fr63T m1 m2) : fr63T m m2 := fun a i q => (g a i q).trans (h a i q)
theorem r63_fT {m m2 : xM} {vs : List Value} {rv : Option Value} (h : cPo tS tR r152c m vs rv m2) : fr63T m m2 := fun a i hq => h.2.1 a i (wm_f (fun q hm z => by
  have h9 : ∀ q ∈ r152c.2.2.2.2, (q.1 = 314 ∧ 8 ≤ q.2.1 ∧ q.2.2 ≤ 18) ∨ q.1 = 318 ∨ q.1 = 330 := by decide
  have := h9 q hm
  omega))
theorem r63_jT {m m2 : xM} {vs : List Value} {rv : Option Value} (hj : jM m) (h : cPo tS tR r152c m vs rv m2) : jM m2 := jM_st (c := (0, [], [], [], r152c.2.2.2.2)) (by decide) m m2 h.2.1 hj
theorem mT_63T {m m2 : xM} {C S : Nat} {A B Y : Nat → Nat} (hT : mT m C S A B Y) (h : fr63T m m2) : mT m2 C S A B Y := mT_f hT (fun i => ⟨⟨h _ _ (by omega), h _ _ (by omega)⟩, h _ _ (by omega)⟩)
theorem mY_63T {m m2 : xM} {C : Nat} {t : Mt} (hY : mY m C t) (h : fr63T m m2) : mY m2 C t := fun a b ha hb => by rw [h _ _ (by omega)]; exact hY a b ha hb
set_option maxHeartbeats 2000000 in
theorem c_goesT {m : xM} {C S w p h : Nat} {A B Y : Nat → Nat} {t : Mt} (hI : gI tS tR m) (hj : jM m) (hT : mT m C S A B Y) (hw : m.1 327 24 = nI w) (hw2 : w < 65536) (hY : mY m C t) (ht : mle 100000 t) (hp : p < 4) (hh : m.1 327 (16 + 2 * p) = nI h) (hC : h < C) : fC 203 [.ref 314, .ref 327, .int (nI p)] m (fun rv m' => gI tS tR m' ∧ jM m' ∧ fr63T m m' ∧ ((rv = some (.int (-1)) ∧ ∀ e, e < C → ¬ isG (chp A B S w C) t 100000 h e) ∨ ∃ e, e < C ∧ rv = some (.int (nI e)) ∧ isG (chp A B S w C) t 100000 h e)) := by
  refine fC_of (by decide) (fun d n P H => ?_)
  have hC8 : C ≤ 8 := hT.2.2.1
  have lp : ∀ n k b mo v m2, k ≤ C → gI tS tR m2 → jM m2 → fr63T m m2 → ((b = -1 ∧ ∀ e, e < k → ¬ isG (chp A B S w C) t 100000 h e) ∨ ∃ e, e < C ∧ b = nI e ∧ isG (chp A B S w C) t 100000 h e) → xF 203 (xw d) P n 8 [(5, .int (nI k)), (3, .int b), (4, .int mo), (6, .int v), (0, .ref 314), (1, .ref 327), (2, .int (nI p))] [] m2 → ∃ rv m', P rv m' ∧ gI tS tR m' ∧ jM m' ∧ fr63T m m' ∧ ((rv = some (.int (-1)) ∧ ∀ e, e < C → ¬ isG (chp A B S w C) t 100000 h e) ∨ ∃ e, e < C ∧ rv = some (.int (nI e)) ∧ isG (chp A B S w C) t 100000 h e) := by
    intro n
    induction n with
    | zero => exact fun k b mo v m2 _ _ _ _ _ H => (xF_0 H).elim
    | succ n ih =>
      intro k b mo v m2 hk hI2 hj2 hf hb H
      have hr : rS m2 := hI2.2
      have hT2 := mT_63T hT hf
      have hY2 := mY_63T hY hf
      have hw3 : m2.1 327 24 = nI w := by rw [hf 327 24 (by omega)]; exact hw
      have hh2 : m2.1 327 (16 + 2 * p) = nI h := by rw [hf 327 _ (by omega)]; exact hh
      replace H := f1_iload H k203_8 rfl
      replace H := f_aload_n H k203_10 rfl
      replace H := f_gi H k203_11 (ci := 12) (f := 25) (by decide +kernel) (by decide)
      rw [hT2.1] at H
      have Hbr := f_icmp_ge H k203_14 (t := 63) (by decide)
      clear H
      rcases Hbr with ⟨c0, H⟩ | ⟨c0, H⟩
      · rw [nxle (by omega) (by omega)] at c0
        have ek : k = C := by omega
        subst ek
        replace H := f_iload_n H k203_63 rfl
        replace H := f_iret H k203_64
        refine ⟨_, _, H, hI2, hj2, hf, ?_⟩
        rcases hb with ⟨rfl, h2⟩ | ⟨e, h1, rfl, h2⟩
        · exact Or.inl ⟨rfl, h2⟩
        · exact Or.inr ⟨e, h1, rfl, h2⟩
      · rw [nxle (by omega) (by omega)] at c0
        replace H := f_aload_n H k203_17 rfl
        replace H := f_aload_n H k203_18 rfl
        replace H := f_iload_n H k203_19 rfl
        replace H := f_iload H k203_20 rfl
        obtain ⟨rv, m3, ⟨⟨v9, rfl, hv⟩, hc⟩, h9_22⟩ := f_inv H k203_22 (by decide +kernel) (as := [.ref 327, .int _, .int _]) (b := 314) (r := []) (by rfl) (fC_two (c_drawsT hr hT2 hw3 hw2 hY2 ht hp hh2 hC (by omega)) (fC_vC r152 hI2 hj2 ⟨aR_a 314, aR_a 327, aI_n (L := 3) (by omega) (by omega), aI_n (L := 7) (by omega) (by omega), trivial⟩ gF_nil))
        replace H := h9_22
        have hI3 := hc.1
        have hj3 := r63_jT hj2 hc
        have hf3 := fr63_tT hf (r63_fT hc)
        clear hc
        have nx : ∀ b2 mo2, ((b2 = -1 ∧ ∀ e, e < k + 1 → ¬ isG (chp A B S w C) t 100000 h e) ∨ ∃ e, e < C ∧ b2 = nI e ∧ isG (chp A B S w C) t 100000 h e) → xF 203 (xw d) P n 57 [(5, .int (nI k)), (3, .int b2), (4, .int mo2), (6, .int v9), (0, .ref 314), (1, .ref 327), (2, .int (nI p))] [] m3 → ∃ rv m', P rv m' ∧ gI tS tR m' ∧ jM m' ∧ fr63T m m' ∧ ((rv = some (.int (-1)) ∧ ∀ e, e < C → ¬ isG (chp A B S w C) t 100000 h e) ∨ ∃ e, e < C ∧ rv = some (.int (nI e)) ∧ isG (chp A B S w C) t 100000 h e) := by
          intro b2 mo2 hb2 H
          replace H := f_iinc H k203_57 rfl (l2 := [(5, .int (nI k + 1)), (3, .int b2), (4, .int mo2), (6, .int v9), (0, .ref 314), (1, .ref 327), (2, .int (nI p))]) rfl
          replace H := f_goto H k203_60 (t := 8) (by decide)
          rw [nI_s] at H
          exact ih (k + 1) b2 mo2 v9 m3 (by omega) hI3 hj3 hf3 hb2 H
        have tk : ∀ mo2 v2, (v9 ≠ -1000000 ∧ isG (chp A B S w C) t 100000 h k) → xF 203 (xw d) P n 50 [(6, .int v9), (5, .int (nI k)), (3, .int b), (4, .int mo2), (0, .ref 314), (1, .ref 327), (2, .int (nI p))] v2 m3 → v2 = [] → ∃ rv m', P rv m' ∧ gI tS tR m' ∧ jM m' ∧ fr63T m m' ∧ ((rv = some (.int (-1)) ∧ ∀ e, e < C → ¬ isG (chp A B S w C) t 100000 h e) ∨ ∃ e, e < C ∧ rv = some (.int (nI e)) ∧ isG (chp A B S w C) t 100000 h e) := by
          intro mo2 v2 h9 H e2
          subst e2
          replace H := f_iload H k203_50 rfl
          replace H := f_istore_n H k203_52 (l2 := [(3, .int (nI k)), (6, .int v9), (5, .int (nI k)), (4, .int mo2), (0, .ref 314), (1, .ref 327), (2, .int (nI p))]) rfl
          replace H := f_iload H k203_53 rfl
          replace H := f_istore H k203_55 (l2 := [(4, .int v9), (3, .int (nI k)), (6, .int v9), (5, .int (nI k)), (0, .ref 314), (1, .ref 327), (2, .int (nI p))]) rfl
          replace H := f_ext H (l' := [(5, .int (nI k)), (3, .int (nI k)), (4, .int v9), (6, .int v9), (0, .ref 314), (1, .ref 327), (2, .int (nI p))]) (lE_cons rfl (lE_cons rfl (lE_cons rfl (lE_cons rfl (lE_cons rfl (lE_cons rfl (lE_cons rfl (lE_nil)))))))) rfl rfl
          exact nx _ _ (Or.inr ⟨k, by omega, rfl, h9.2⟩) H
        replace H := f_istore H k203_25 (l2 := [(6, .int _), (5, .int (nI k)), (3, .int b), (4, .int mo), (0, .ref 314), (1, .ref 327), (2, .int (nI p))]) rfl
        replace H := f_iload H k203_27 rfl
        replace H := f_ldc_w H k203_29 (v := -1000000) (by decide +kernel)
        have Hbr := f_icmp_eq H k203_32 (t := 57) (by decide)
        clear H
        rcases Hbr with ⟨c1, H⟩ | ⟨c1, H⟩
        · have hn : ¬ isG (chp A B S w C) t 100000 h k := by
            rcases hv with ⟨-, q⟩ | ⟨q, -⟩
            · exact q
            · exact absurd c1 q
          replace H := f_ext H (l' := [(5, .int (nI k)), (3, .int b), (4, .int mo), (6, .int v9), (0, .ref 314), (1, .ref 327), (2, .int (nI p))]) (lE_cons rfl (lE_cons rfl (lE_cons rfl (lE_cons rfl (lE_cons rfl (lE_cons rfl (lE_cons rfl (lE_nil)))))))) rfl rfl
          refine nx _ _ ?_ H
          rcases hb with ⟨q1, q2⟩ | q
          · refine Or.inl ⟨q1, fun e he => ?_⟩
            by_cases ee : e = k
            · rw [ee]; exact hn
            · exact q2 e (by omega)
          · exact Or.inr q
        · have hg : v9 ≠ -1000000 ∧ isG (chp A B S w C) t 100000 h k := by
            rcases hv with ⟨q, -⟩ | q
            · exact absurd q c1
            · exact q
          replace H := f_iload_n H k203_35 rfl
          replace H := f_iconst H k203_36 (v := -1) (by decide)
          have Hbr := f_icmp_eq H k203_37 (t := 50) (by decide)
          clear H
          rcases Hbr with ⟨c2, H⟩ | ⟨c2, H⟩
          · exact tk _ _ hg H rfl
          · replace H := f_iload H k203_40 rfl
            replace H := f_iload H k203_42 rfl
            have Hbr := f_icmp_gt H k203_44 (t := 50) (by decide)
            clear H
            rcases Hbr with ⟨c3, H⟩ | ⟨c3, H⟩
            · exact tk _ _ hg H rfl
            · replace H := f_goto H k203_47 (t := 57) (by decide)
              replace H := f_ext H (l' := [(5, .int (nI k)), (3, .int b), (4, .int mo), (6, .int v9), (0, .ref 314), (1, .ref 327), (2, .int (nI p))]) (lE_cons rfl (lE_cons rfl (lE_cons rfl (lE_cons rfl (lE_cons rfl (lE_cons rfl (lE_cons rfl (lE_nil)))))))) rfl rfl
              refine nx _ _ ?_ H
              rcases hb with ⟨q1, q2⟩ | q
              · exact absurd q1 c2
              · exact Or.inr q
  replace H := f_iconst H k203_0 (v := -1) (by decide)
  replace H := f_istore_n H k203_1 (l2 := [(3, .int (-1)), (0, .ref 314), (1, .ref 327), (2, .int (nI p))]) rfl
  replace H := f_iconst H k203_2 (v := 0) (by decide)
  replace H := f_istore H k203_3 (l2 := [(4, .int 0), (3, .int (-1)), (0, .ref 314), (1, .ref 327), (2, .int (nI p))]) rfl
  replace H := f_iconst H k203_5 (v := 0) (by decide)
  replace H := f_istore H k203_6 (l2 := [(5, .int 0), (4, .int 0), (3, .int (-1)), (0, .ref 314), (1, .ref 327), (2, .int (nI p))]) rfl
  replace H := f_ext H (l' := [(5, .int 0), (3, .int (-1)), (4, .int 0), (6, .int 0), (0, .ref 314), (1, .ref 327), (2, .int (nI p))]) (lE_cons rfl (lE_cons rfl (lE_cons rfl (lE_cons rfl (lE_cons rfl (lE_cons rfl (lE_nil))))))) rfl rfl
  exact lp n 0 (-1) 0 0 m (Nat.zero_le _) hI hj (fun _ _ _ => rfl) (Or.inl ⟨rfl, fun e he => absurd he (Nat.not_lt_zero _)⟩) H
theorem sg_mT : ∀ e : Fin 8, gseg (2 * e.val) (tS 327) = (0, 999) := by decide +kernel
theorem sg_fT : ∀ e : Fin 4, gseg (17 + 2 * e.val) (tS 327) = (0, 9) := by decide +kernel
theorem sg_cT : gseg 25 (tS 327) = (iLo, iHi) := by decide +kernel
/-- what a day leaves alone in the reference: all but marks, faith, coins, day, log -/
def frDT (m m2 : xM) : Prop := ∀ a i, (a < 314 ∨ a = 315 ∨ a = 320 ∨ a = 322 ∨ a = 324 ∨ a = 325 ∨ (331 ≤ a ∧ a ≤ 333) ∨ (a = 314 ∧ ¬ (8 ≤ i ∧ i < 18) ∧ i ≠ 39 ∧ i ≠ 40) ∨ (a = 327 ∧ ((i < 16 ∧ i % 2 = 1) ∨ (16 ≤ i ∧ i < 24 ∧ i % 2 = 0) ∨ i = 24))) → m2.1 a i = m.1 a i
theorem frD_tT {m m1 m2 : xM} (h : frDT m m1) (g : frDT m1 m2) : frDT m m2 := fun a i q => (g a i q).trans (h a i q)
theorem frD_63T {m m2 : xM} (h : fr63T m m2) : frDT m m2 := fun a i q => h a i (by omega)
theorem frD_sT {m m2 : xM} {a i : Nat} {v : Int32} (h : frDT m m2) (ha : (a = 314 ∧ (i = 39 ∨ i = 40)) ∨ (a = 327 ∧ ((i < 16 ∧ i % 2 = 0) ∨ (16 ≤ i ∧ i < 24 ∧ i % 2 = 1) ∨ 25 ≤ i)) ∨ a = 328) : frDT m (mI m2 a i v) := fun b j q => by rw [mI_ne (by omega)]; exact h b j q
theorem mT_DT {m m2 : xM} {C S : Nat} {A B Y : Nat → Nat} (hT : mT m C S A B Y) (h : frDT m m2) : mT m2 C S A B Y := mT_f hT (fun i => ⟨⟨h _ _ (by omega), h _ _ (by omega)⟩, h _ _ (by omega)⟩)
def frET (L : Int32) (m m2 : xM) : Prop := frDT m m2 ∧ m2.1 314 39 = L
theorem frET_s {L : Int32} {m m2 : xM} {a i : Nat} {v : Int32} (h : frET L m m2) (ha : (a = 327 ∧ ((i < 16 ∧ i % 2 = 0) ∨ (16 ≤ i ∧ i < 24 ∧ i % 2 = 1) ∨ 25 ≤ i)) ∨ a = 328) : frET L m (mI m2 a i v) := ⟨frD_sT h.1 (by omega), by rw [mI_ne (by omega)]; exact h.2⟩
set_option maxHeartbeats 4000000 in
theorem c_goDayT {m : xM} {C S W w k d0 lg : Nat} {A B Y h f : Nat → Nat} {g : Nat → Bool} (hgp : ∀ p, g p = anyG (chp A B S w C) (wyM C S A B Y w) 100000 (h p) C) (hI : gI tS tR m) (hj : jM m) (hT : mT m C S A B Y) (hW : m.1 314 27 = nI W) (hW4 : W ≤ 4) (hw : m.1 327 24 = nI w) (hw2 : w < 65536) (hh : ∀ p, p < W → m.1 327 (16 + 2 * p) = nI (h p) ∧ h p < C) (hf : ∀ p, p < W → m.1 327 (17 + 2 * p) = nI (f p) ∧ f p ≤ 9) (hk : m.1 327 25 = nI k) (hk9 : k ≤ 999) (hd : m.1 327 26 = nI d0) (hd9 : d0 ≤ 2000) (hl : m.1 327 27 = nI lg) (hl6 : lg ≤ 60) : fC 204 [.ref 314, .ref 327] m (fun rv m' => rv = some (.int (nI (gcn g W))) ∧ frET (nI (aro (fun p => !(g p)) W)) m m' ∧ (∀ p, p < W → m'.1 327 (17 + 2 * p) = nI (fth g f p)) ∧ m'.1 327 25 = nI (min 999 (k + gcn g W)) ∧ m'.1 327 26 = nI (d0 + 1) ∧ m'.1 327 27 = nI (min 60 (lg + 1))) := by
  refine fC_of (by decide) (fun d n P H => ?_)
  have hC8 : C ≤ 8 := hT.2.2.1
  have hS : ∀ s, s < S → A s ≠ B s ∧ 1 ≤ Y s ∧ Y s ≤ 40 := fun s hs => ⟨(hT.2.2.2.2 s hs).2.2.2.2.2.1, (hT.2.2.2.2 s hs).2.2.2.2.2.2.1, (hT.2.2.2.2 s hs).2.2.2.2.2.2.2⟩
  have hle : mle 100000 (wyM C S A B Y w) := fwO_le (wsM_le hS) C
  have c24 : (24 : Int32).toNatClampNeg = 24 := by decide
  have c25 : (25 : Int32).toNatClampNeg = 25 := by decide
  have c26 : (26 : Int32).toNatClampNeg = 26 := by decide
  have c27 : (27 : Int32).toNatClampNeg = 27 := by decide
  have k27 : (27 : Int32) = nI 27 := rfl
  have k999 : (999 : Int32) = nI 999 := rfl
  -- behind the walkers
  have fin : ∀ n m2 z3 z4, rS m2 → frET (nI (aro (fun p => !(g p)) W)) m m2 → (∀ p, p < W → m2.1 327 (17 + 2 * p) = nI (fth g f p)) → m2.1 327 25 = nI (min 999 (k + gcn g W)) → m2.1 327 26 = nI d0 → m2.1 327 27 = nI lg → xF 204 (xw d) P n 147 [(3, .int z3), (2, .int (nI (gcn g W))), (4, .int z4), (0, .ref 314), (1, .ref 327)] [] m2 → ∃ rv m', P rv m' ∧ rv = some (.int (nI (gcn g W))) ∧ frET (nI (aro (fun p => !(g p)) W)) m m' ∧ (∀ p, p < W → m'.1 327 (17 + 2 * p) = nI (fth g f p)) ∧ m'.1 327 25 = nI (min 999 (k + gcn g W)) ∧ m'.1 327 26 = nI (d0 + 1) ∧ m'.1 327 27 = nI (min 60 (lg + 1)) := by
    intro n m2 z3 z4 hr hf2 e1 e2 e3 e4 H
    -- the entry of the log
    have ent : ∀ n m3 z3 l3, l3 < 60 → min 60 (lg + 1) = l3 + 1 → rS m3 → frET (nI (aro (fun p => !(g p)) W)) m m3 → (∀ p, p < W → m3.1 327 (17 + 2 * p) = nI (fth g f p)) → m3.1 327 25 = nI (min 999 (k + gcn g W)) → m3.1 327 26 = nI (d0 + 1) → m3.1 327 27 = nI l3 → xF 204 (xw d) P n 201 [(3, .int z3), (2, .int (nI (gcn g W))), (4, .int z4), (0, .ref 314), (1, .ref 327)] [] m3 → ∃ rv m', P rv m' ∧ rv = some (.int (nI (gcn g W))) ∧ frET (nI (aro (fun p => !(g p)) W)) m m' ∧ (∀ p, p < W → m'.1 327 (17 + 2 * p) = nI (fth g f p)) ∧ m'.1 327 25 = nI (min 999 (k + gcn g W)) ∧ m'.1 327 26 = nI (d0 + 1) ∧ m'.1 327 27 = nI (min 60 (lg + 1)) := by
      intro n m3 z3 l3 hl3 hmn hr hf3 e1 e2 e3 e4 H
      replace H := f_bipush H k204_201 (v := 28) (by decide)
      replace H := f_iconst H k204_203 (v := 3) (by decide)
      replace H := f_aload_n H k204_204 rfl
      replace H := f_bipush H k204_205 (v := 27) (by decide)
      have Hob := f_iald H k204_207 (c := 208) (by decide)
      clear H
      obtain ⟨hb207, H⟩ := Hob
      replace H := f_imul H k204_208
      replace H := f_iadd H k204_209
      rw [c27, e4, show (3 : Int32) = nI 3 from rfl, nI_mul, show (28 : Int32) = nI 28 from rfl, r_ad] at H
      replace H := f_istore_n H k204_210 (l2 := [(3, .int (nI (28 + 3 * l3))), (2, .int (nI (gcn g W))), (4, .int z4), (0, .ref 314), (1, .ref 327)]) rfl
      replace H := f_aload_n H k204_211 rfl
      replace H := f_iload_n H k204_212 rfl
      replace H := f_aload_n H k204_213 rfl
      replace H := f_gi H k204_214 (ci := 12) (f := 40) (by decide +kernel) (by decide)
      have Hob := f_iast H k204_217 (c := 208) (by decide)
      clear H
      obtain ⟨hb217, H⟩ := Hob
      replace H := f_aload_n H k204_218 rfl
      replace H := f_iload_n H k204_219 rfl
      replace H := f_iconst H k204_220 (v := 1) (by decide)
      replace H := f_iadd H k204_221
      replace H := f_aload_n H k204_222 rfl
      replace H := f_gi H k204_223 (ci := 12) (f := 39) (by decide +kernel) (by decide)
      have Hob := f_iast H k204_226 (c := 208) (by decide)
      clear H
      obtain ⟨hb226, H⟩ := Hob
      replace H := f_aload_n H k204_227 rfl
      replace H := f_iload_n H k204_228 rfl
      replace H := f_iconst H k204_229 (v := 2) (by decide)
      replace H := f_iadd H k204_230
      replace H := f_aload_n H k204_231 rfl
      replace H := f_bipush H k204_232 (v := 25) (by decide)
      have Hob := f_iald H k204_234 (c := 208) (by decide)
      clear H
      obtain ⟨hb234, H⟩ := Hob
      have Hob := f_iast H k204_235 (c := 208) (by decide)
      clear H
      obtain ⟨hb235, H⟩ := Hob
      replace H := f_aload_n H k204_236 rfl
      replace H := f_bipush H k204_237 (v := 27) (by decide)
      replace H := f_dup2 H k204_239
      have Hob := f_iald H k204_240 (c := 208) (by decide)
      clear H
      obtain ⟨hb240, H⟩ := Hob
      replace H := f_iconst H k204_241 (v := 1) (by decide)
      replace H := f_iadd H k204_242
      have Hob := f_iast H k204_243 (c := 208) (by decide)
      clear H
      obtain ⟨hb243, H⟩ := Hob
      replace H := f_iload_n H k204_244 rfl
      rw [nI_s, show (2 : Int32) = nI 2 from rfl, r_ad, nI_clamp (by omega), nI_clamp (by omega), nI_clamp (by omega), c25, c27] at H
      obtain ⟨m4, em, H⟩ := f_mem H
      have q27 : m4.1 327 27 = nI (l3 + 1) := by rw [em, mI_at, mI_ne (by omega), mI_ne (by omega), mI_ne (by omega), e4, nI_s]
      have K : ∀ i, i < 27 → m4.1 327 i = m3.1 327 i := fun i hi => by rw [em, mI_ne (by omega), mI_ne (by omega), mI_ne (by omega), mI_ne (by omega)]
      have hf4 : frET (nI (aro (fun p => !(g p)) W)) m m4 := by rw [em]; exact frET_s (frET_s (frET_s (frET_s hf3 (by omega)) (by omega)) (by omega)) (by omega)
      clear em
      replace H := f_iret H k204_245
      exact ⟨_, _, H, rfl, hf4, fun p hp => by rw [K _ (by omega)]; exact e1 p hp, by rw [K _ (by omega)]; exact e2, by rw [K _ (by omega)]; exact e3, by rw [q27, hmn]⟩
    -- the log's shift
    have shf : ∀ n m3 z3, lg = 60 → rS m3 → frET (nI (aro (fun p => !(g p)) W)) m m3 → (∀ p, p < W → m3.1 327 (17 + 2 * p) = nI (fth g f p)) → m3.1 327 25 = nI (min 999 (k + gcn g W)) → m3.1 327 26 = nI (d0 + 1) → m3.1 327 27 = nI 60 → 1 ≤ z3 → z3 ≤ 178 → xF 204 (xw d) P n 166 [(3, .int (nI z3)), (2, .int (nI (gcn g W))), (4, .int z4), (0, .ref 314), (1, .ref 327)] [] m3 → ∃ rv m', P rv m' ∧ rv = some (.int (nI (gcn g W))) ∧ frET (nI (aro (fun p => !(g p)) W)) m m' ∧ (∀ p, p < W → m'.1 327 (17 + 2 * p) = nI (fth g f p)) ∧ m'.1 327 25 = nI (min 999 (k + gcn g W)) ∧ m'.1 327 26 = nI (d0 + 1) ∧ m'.1 327 27 = nI (min 60 (lg + 1)) := by
      intro n
      induction n with
      | zero => exact fun m3 z3 _ _ _ _ _ _ _ _ _ H => (xF_0 H).elim
      | succ n ih =>
        intro m3 z3 hlg hr hf3 e1 e2 e3 e4 hz hz8 H
        by_cases hz3 : z3 ≤ 177
        · replace H := f1_iload_n H k204_166 rfl
          replace H := f_sipush H k204_167 (v := 177) (by decide)
          rw [show (177 : Int32) = nI 177 from rfl] at H
          replace H := f_icmp_gt_f H k204_170 (fun q => by rw [nxlt (by omega) (by omega)] at q; omega)
          replace H := f_aload_n H k204_173 rfl
          replace H := f_bipush H k204_174 (v := 27) (by decide)
          replace H := f_iload_n H k204_176 rfl
          replace H := f_iadd H k204_177
          replace H := f_aload_n H k204_178 rfl
          replace H := f_bipush H k204_179 (v := 27) (by decide)
          replace H := f_iload_n H k204_181 rfl
          replace H := f_iadd H k204_182
          replace H := f_iconst H k204_183 (v := 3) (by decide)
          replace H := f_iadd H k204_184
          have Hob := f_iald H k204_185 (c := 208) (by decide)
          clear H
          obtain ⟨hb185, H⟩ := Hob
          have Hob := f_iast H k204_186 (c := 208) (by decide)
          clear H
          obtain ⟨hb186, H⟩ := Hob
          replace H := f_iinc H k204_187 rfl (l2 := [(3, .int (nI z3 + 1)), (2, .int (nI (gcn g W))), (4, .int z4), (0, .ref 314), (1, .ref 327)]) rfl
          replace H := f_goto H k204_190 (t := 166) (by decide)
          rw [k27, r_ad, show (3 : Int32) = nI 3 from rfl, r_ad, nI_clamp (by omega), nI_clamp (by omega), nI_s] at H
          have K : ∀ i v, i ≤ 27 → (mI m3 327 (27 + z3) v).1 327 i = m3.1 327 i := fun i v hi => mI_ne (by omega)
          exact ih (mI m3 327 (27 + z3) _) (z3 + 1) hlg hr (frET_s hf3 (by omega)) (fun p hp => by rw [K _ _ (by omega)]; exact e1 p hp) (by rw [K _ _ (by omega)]; exact e2) (by rw [K _ _ (by omega)]; exact e3) (by rw [K _ _ (by omega)]; exact e4) (by omega) (by omega) H
        · replace H := f1_iload_n H k204_166 rfl
          replace H := f_sipush H k204_167 (v := 177) (by decide)
          rw [show (177 : Int32) = nI 177 from rfl] at H
          replace H := f_icmp_gt_t H k204_170 (by rw [nxlt (by omega) (by omega)]; omega) (t := 193) (by decide)
          replace H := f_aload_n H k204_193 rfl
          replace H := f_bipush H k204_194 (v := 27) (by decide)
          replace H := f_dup2 H k204_196
          have Hob := f_iald H k204_197 (c := 208) (by decide)
          clear H
          obtain ⟨hb197, H⟩ := Hob
          replace H := f_iconst H k204_198 (v := 1) (by decide)
          replace H := f_isub H k204_199
          have Hob := f_iast H k204_200 (c := 208) (by decide)
          clear H
          obtain ⟨hb200, H⟩ := Hob
          rw [c27, e4, show nI 60 - 1 = nI 59 by decide] at H
          have K : ∀ i v, i < 27 → (mI m3 327 27 v).1 327 i = m3.1 327 i := fun i v hi => mI_ne (by omega)
          exact ent _ (mI m3 327 27 (nI 59)) _ 59 (by omega) (by omega) hr (frET_s hf3 (by omega)) (fun p hp => by rw [K _ _ (by omega)]; exact e1 p hp) (by rw [K _ _ (by omega)]; exact e2) (by rw [K _ _ (by omega)]; exact e3) mI_at H
    replace H := f_aload_n H k204_147 rfl
    replace H := f_bipush H k204_148 (v := 26) (by decide)
    replace H := f_dup2 H k204_150
    have Hob := f_iald H k204_151 (c := 208) (by decide)
    clear H
    obtain ⟨hb151, H⟩ := Hob
    replace H := f_iconst H k204_152 (v := 1) (by decide)
    replace H := f_iadd H k204_153
    have Hob := f_iast H k204_154 (c := 208) (by decide)
    clear H
    obtain ⟨hb154, H⟩ := Hob
    rw [c26, e3, nI_s] at H
    have hf3 : frET (nI (aro (fun p => !(g p)) W)) m (mI m2 327 26 (nI (d0 + 1))) := frET_s hf2 (by omega)
    have K : ∀ i, i ≠ 26 → (mI m2 327 26 (nI (d0 + 1))).1 327 i = m2.1 327 i := fun i hi => mI_ne (by omega)
    have k26 : (mI m2 327 26 (nI (d0 + 1))).1 327 26 = nI (d0 + 1) := mI_at
    have hr3 : rS (mI m2 327 26 (nI (d0 + 1))) := hr
    generalize mI m2 327 26 (nI (d0 + 1)) = m3 at *
    have hr := hr3
    replace H := f_aload_n H k204_155 rfl
    replace H := f_bipush H k204_156 (v := 27) (by decide)
    have Hob := f_iald H k204_158 (c := 208) (by decide)
    clear H
    obtain ⟨hb158, H⟩ := Hob
    replace H := f_bipush H k204_159 (v := 60) (by decide)
    rw [c27, K 27 (by omega), e4, show (60 : Int32) = nI 60 from rfl] at H
    have Hbr := f_icmp_ne H k204_161 (t := 201) (by decide)
    clear H
    rcases Hbr with ⟨c, H⟩ | ⟨c, H⟩
    · have hl60 : lg ≠ 60 := fun q => c (by rw [q])
      exact ent _ m3 _ lg (by omega) (by omega) hr hf3 (fun p hp => by rw [K _ (by omega)]; exact e1 p hp) (by rw [K _ (by omega)]; exact e2) k26 (by rw [K _ (by omega)]; exact e4) H
    · rw [nI_inj (by omega) (by omega)] at c
      replace H := f_iconst H k204_164 (v := 1) (by decide)
      replace H := f_istore_n H k204_165 (l2 := [(3, .int 1), (2, .int (nI (gcn g W))), (4, .int z4), (0, .ref 314), (1, .ref 327)]) rfl
      replace H := f_ext H (l' := [(3, .int 1), (2, .int (nI (gcn g W))), (4, .int z4), (0, .ref 314), (1, .ref 327)]) (lE_cons rfl (lE_cons rfl (lE_cons rfl (lE_cons rfl (lE_cons rfl (lE_nil)))))) rfl rfl
      exact shf _ m3 1 c hr hf3 (fun p hp => by rw [K _ (by omega)]; exact e1 p hp) (by rw [K _ (by omega)]; exact e2) k26 (by rw [K _ (by omega), e4, c]) (by omega) (by omega) H
  -- the walkers
  have lp : ∀ n p z4 m2, p ≤ W → gI tS tR m2 → jM m2 → frDT m m2 → mY m2 C (wyM C S A B Y w) → (∀ q, q < p → m2.1 327 (17 + 2 * q) = nI (fth g f q)) → (∀ q, p ≤ q → q < W → m2.1 327 (17 + 2 * q) = nI (f q)) → m2.1 327 25 = nI (min 999 (k + gcn g p)) → m2.1 327 26 = nI d0 → m2.1 327 27 = nI lg → m2.1 314 39 = nI (aro (fun p => !(g p)) p) → xF 204 (xw d) P n 22 [(3, .int (nI p)), (2, .int (nI (gcn g p))), (4, .int z4), (0, .ref 314), (1, .ref 327)] [] m2 → ∃ rv m', P rv m' ∧ rv = some (.int (nI (gcn g W))) ∧ frET (nI (aro (fun p => !(g p)) W)) m m' ∧ (∀ p, p < W → m'.1 327 (17 + 2 * p) = nI (fth g f p)) ∧ m'.1 327 25 = nI (min 999 (k + gcn g W)) ∧ m'.1 327 26 = nI (d0 + 1) ∧ m'.1 327 27 = nI (min 60 (lg + 1)) := by
    intro n
    induction n with
    | zero => exact fun p z4 m2 _ _ _ _ _ _ _ _ _ _ _ H => (xF_0 H).elim
    | succ n ih =>
      intro p z4 m2 hp hI2 hj2 hfr hY e1 e1b e2 e3 e4 e5 H
      have hr : rS m2 := hI2.2
      have eW : m2.1 314 27 = nI W := by rw [hfr _ _ (by omega)]; exact hW
      have gle := gcn_le (g := g) p
      replace H := f1_iload_n H k204_22 rfl
      replace H := f_aload_n H k204_23 rfl
      replace H := f_gi H k204_24 (ci := 12) (f := 27) (by decide +kernel) (by decide)
      rw [eW] at H
      have Hbr := f_icmp_ge H k204_27 (t := 147) (by decide)
      clear H
      rcases Hbr with ⟨k0, H⟩ | ⟨k0, H⟩
      · rw [nxle (by omega) (by omega)] at k0
        have ep : p = W := by omega
        subst ep
        exact fin _ m2 _ _ hr ⟨hfr, e5⟩ e1 e2 e3 e4 H
      · rw [nxle (by omega) (by omega)] at k0
        obtain ⟨hh1, hh2⟩ := hh p (by omega)
        obtain ⟨-, hf9⟩ := hf p (by omega)
        have efp := e1b p (Nat.le_refl _) (by omega)
        replace H := f_aload_n H k204_30 rfl
        replace H := f_aload_n H k204_31 rfl
        replace H := f_iload_n H k204_32 rfl
        obtain ⟨rv, m3, ⟨hI3, hj3, hf63, ho⟩, h9_33⟩ := f_inv H k204_33 (by decide +kernel) (as := [.ref 327, .int _]) (b := 314) (r := []) (by rfl) (c_goesT hI2 hj2 (mT_DT hT hfr) (by rw [hfr 327 24 (by omega)]; exact hw) hw2 hY hle (by omega) (by rw [hfr 327 _ (by omega)]; exact hh1) hh2)
        replace H := h9_33
        have hr : rS m3 := hI3.2
        have hfr3 := frD_tT hfr (frD_63T hf63)
        have hY3 := mY_63T hY hf63
        have K3 : ∀ i, m3.1 327 i = m2.1 327 i := fun i => hf63 327 i (by omega)
        rcases ho with ⟨rfl, hno⟩ | ⟨e, he, rfl, hyes⟩
        · have hgf : g p = false := by rw [hgp]; exact anyG_f.mpr hno
          replace H := f_istore H k204_36 (l2 := [(4, .int _), (3, .int (nI p)), (2, .int (nI (gcn g p))), (0, .ref 314), (1, .ref 327)]) rfl
          replace H := f_iload H k204_38 rfl
          replace H := f_iconst H k204_40 (v := -1) (by decide)
          replace H := f_icmp_ne_f H k204_41 rfl
          replace H := f_aload_n H k204_44 rfl
          replace H := f_dup H k204_45
          replace H := f_gi H k204_46 (ci := 12) (f := 39) (by decide +kernel) (by decide)
          replace H := f_iconst H k204_49 (v := 1) (by decide)
          replace H := f_iload_n H k204_50 rfl
          replace H := f_ishl H k204_51
          replace H := f_ior H k204_52
          replace H := f_put_i H k204_53 (ci := 12) (f := 39) (by decide +kernel) (by decide)
          replace H := f_aload_n H k204_56 rfl
          replace H := f_bipush H k204_57 (v := 16) (by decide)
          replace H := f_iconst H k204_59 (v := 2) (by decide)
          replace H := f_iload_n H k204_60 rfl
          replace H := f_imul H k204_61
          replace H := f_iadd H k204_62
          replace H := f_iconst H k204_63 (v := 1) (by decide)
          replace H := f_iadd H k204_64
          replace H := f_iconst H k204_65 (v := 0) (by decide)
          replace H := f_aload_n H k204_66 rfl
          replace H := f_bipush H k204_67 (v := 16) (by decide)
          replace H := f_iconst H k204_69 (v := 2) (by decide)
          replace H := f_iload_n H k204_70 rfl
          replace H := f_imul H k204_71
          replace H := f_iadd H k204_72
          replace H := f_iconst H k204_73 (v := 1) (by decide)
          replace H := f_iadd H k204_74
          have Hob := f_iald H k204_75 (c := 208) (by decide)
          clear H
          obtain ⟨hb75, H⟩ := Hob
          replace H := f_iconst H k204_76 (v := 1) (by decide)
          replace H := f_isub H k204_77
          rw [show (2 : Int32) = nI 2 from rfl, nI_mul, show (16 : Int32) = nI 16 from rfl, r_ad, nI_s, nI_clamp (by omega), show 16 + 2 * p + 1 = 17 + 2 * p by omega] at H
          obtain ⟨m4, em, H⟩ := f_mem H
          have K4 : ∀ a i, ¬ (a = 314 ∧ i = 39) → m4.1 a i = m3.1 a i := fun a i q => by rw [em, mI_ne q]
          have hI4 : gI tS tR m4 := by rw [em]; exact gI_m2 hI3 (by rw [show gseg 39 (tS 314) = (iLo, iHi) by decide +kernel]; exact i32_rng _)
          have hj4 : jM m4 := by rw [em]; exact jM_c (by decide) hj3
          have hfr4 : frDT m m4 := by rw [em]; exact frD_sT hfr3 (by omega)
          have q5 : m4.1 314 39 = nI (aro (fun p => !(g p)) (p + 1)) := by
            rw [em, mI_at, hf63 314 39 (by omega), e5, shl_n (by omega), aro_t (q := fun p => !(g p)) (by show (!(g p)) = true; rw [hgf]; rfl)]
            exact fa_or _ _
          rw [← em, K4 _ _ (by omega), K3, efp] at H
          clear em
          obtain ⟨rv, m5, ⟨rfl, e9⟩, h9_78⟩ := f_ins H k204_78 (by decide +kernel) (as := [.int _, .int _]) (r := [.int _, .ref 327]) (by rfl) (c_max0 (by omega))
          replace H := h9_78
          rw [← e9] at H
          clear e9
          have Hob := f_iast H k204_81 (c := 208) (by decide)
          clear H
          obtain ⟨hb81, H⟩ := Hob
          replace H := f_goto H k204_82 (t := 141) (by decide)
          replace H := f_iinc H k204_141 rfl (l2 := [(3, .int (nI p + 1)), (4, .int (-1)), (2, .int (nI (gcn g p))), (0, .ref 314), (1, .ref 327)]) rfl
          replace H := f_goto H k204_144 (t := 22) (by decide)
          rw [show (nI (17 + 2 * p)).toNatClampNeg = 17 + 2 * p from nI_clamp (by omega), nI_s] at H
          have eg : gcn g (p + 1) = gcn g p := by rw [gcn_s, hgf]; rfl
          rw [← eg] at H
          have K5 : ∀ i v, i ≠ 17 + 2 * p → (mI m4 327 (17 + 2 * p) v).1 327 i = m2.1 327 i := fun i v hi => by rw [mI_ne (by omega), K4 _ _ (by omega), K3]
          refine ih (p + 1) _ (mI m4 327 (17 + 2 * p) (nI (f p - 1))) (by omega) (gI_m2 hI4 (by rw [sg_fT ⟨p, by omega⟩, nI_toInt (by omega)]; omega)) (jM_c rfl hj4) (frD_sT hfr4 (by omega)) (fun a b ha hb => by rw [mI_ne (by omega), K4 _ _ (by omega)]; exact hY3 a b ha hb) (fun q hq => ?_) (fun q hq hq2 => ?_) ?_ ?_ ?_ ?_ (f_ext H (lE_cons rfl (lE_cons rfl (lE_cons rfl (lE_cons rfl (lE_cons rfl lE_nil))))) rfl rfl)
          · by_cases c : q = p
            · subst c
              rw [mI_at]
              unfold fth
              rw [hgf]
              rfl
            · rw [K5 _ _ (by omega)]; exact e1 q (by omega)
          · rw [K5 _ _ (by omega)]; exact e1b q (by omega) hq2
          · rw [K5 _ _ (by omega), eg]; exact e2
          · rw [K5 _ _ (by omega)]; exact e3
          · rw [K5 _ _ (by omega)]; exact e4
          · rw [mI_ne (by omega)]; exact q5
        · have hgt : g p = true := by rw [hgp]; exact anyG_t.mpr ⟨e, he, hyes⟩
          obtain ⟨mk, hmk, emk⟩ := i_rng (x := m3.1 327 (2 * e)) (L := 999) (by have := hI3.1 327 (2 * e); rw [sg_mT ⟨e, by omega⟩] at this; exact this.1) (by have := hI3.1 327 (2 * e); rw [sg_mT ⟨e, by omega⟩] at this; exact this.2) (by decide)
          replace H := f_istore H k204_36 (l2 := [(4, .int _), (3, .int (nI p)), (2, .int (nI (gcn g p))), (0, .ref 314), (1, .ref 327)]) rfl
          replace H := f_iload H k204_38 rfl
          replace H := f_iconst H k204_40 (v := -1) (by decide)
          replace H := f_icmp_ne_t H k204_41 (nI_n1 (N := 8) (by omega) (by decide)) (t := 85) (by decide)
          replace H := f_aload_n H k204_85 rfl
          replace H := f_dup H k204_86
          replace H := f_gi H k204_87 (ci := 12) (f := 40) (by decide +kernel) (by decide)
          replace H := f_iconst H k204_90 (v := 1) (by decide)
          replace H := f_iload H k204_91 rfl
          replace H := f_ishl H k204_93
          replace H := f_ior H k204_94
          replace H := f_put_i H k204_95 (ci := 12) (f := 40) (by decide +kernel) (by decide)
          obtain ⟨m4, em, H⟩ := f_mem H
          have K4 : ∀ a i, ¬ (a = 314 ∧ i = 40) → m4.1 a i = m3.1 a i := fun a i q => by rw [em, mI_ne q]
          have hI4 : gI tS tR m4 := by rw [em]; exact gI_m2 hI3 (by rw [show gseg 40 (tS 314) = (iLo, iHi) by decide +kernel]; exact i32_rng _)
          have hj4 : jM m4 := by rw [em]; exact jM_c (by decide) hj3
          have hfr4 : frDT m m4 := by rw [em]; exact frD_sT hfr3 (by omega)
          clear em
          have hr : rS m4 := hI4.2
          replace H := f_aload_n H k204_98 rfl
          replace H := f_iconst H k204_99 (v := 2) (by decide)
          replace H := f_iload H k204_100 rfl
          replace H := f_imul H k204_102
          replace H := f_iconst H k204_103 (v := 0) (by decide)
          replace H := f_iadd H k204_104
          replace H := f_sipush H k204_105 (v := 999) (by decide)
          replace H := f_aload_n H k204_108 rfl
          replace H := f_iconst H k204_109 (v := 2) (by decide)
          replace H := f_iload H k204_110 rfl
          replace H := f_imul H k204_112
          replace H := f_iconst H k204_113 (v := 0) (by decide)
          replace H := f_iadd H k204_114
          have Hob := f_iald H k204_115 (c := 208) (by decide)
          clear H
          obtain ⟨hb115, H⟩ := Hob
          replace H := f_iconst H k204_116 (v := 1) (by decide)
          replace H := f_iadd H k204_117
          rw [show (2 : Int32) = nI 2 from rfl, nI_mul, show (0 : Int32) = nI 0 from rfl, r_ad, nI_clamp (by omega), show 2 * e + 0 = 2 * e from rfl, K4 _ _ (by omega), emk, nI_s, k999] at H
          obtain ⟨rv, m5, ⟨rfl, e9⟩, h9_118⟩ := f_ins H k204_118 (by decide +kernel) (as := [.int _, .int _]) (r := [.int _, .ref 327]) (by rfl) (c_minI (by omega) (by omega))
          replace H := h9_118
          rw [← e9] at H
          clear e9
          have Hob := f_iast H k204_121 (c := 208) (by decide)
          clear H
          obtain ⟨hb121, H⟩ := Hob
          rw [show (nI (2 * e)).toNatClampNeg = 2 * e from nI_clamp (by omega)] at H
          obtain ⟨m6, em, H⟩ := f_mem H
          have K6 : ∀ a i, ¬ (a = 327 ∧ i = 2 * e) → m6.1 a i = m4.1 a i := fun a i q => by rw [em, mI_ne q]
          have hI6 : gI tS tR m6 := by rw [em]; exact gI_m2 hI4 (by rw [sg_mT ⟨e, by omega⟩, nI_toInt (by omega)]; omega)
          have hj6 : jM m6 := by rw [em]; exact jM_c rfl hj4
          have hfr6 : frDT m m6 := by rw [em]; exact frD_sT hfr4 (by omega)
          clear em
          have hr : rS m6 := hI6.2
          replace H := f_aload_n H k204_122 rfl
          replace H := f_bipush H k204_123 (v := 25) (by decide)
          replace H := f_sipush H k204_125 (v := 999) (by decide)
          replace H := f_aload_n H k204_128 rfl
          replace H := f_bipush H k204_129 (v := 25) (by decide)
          have Hob := f_iald H k204_131 (c := 208) (by decide)
          clear H
          obtain ⟨hb131, H⟩ := Hob
          replace H := f_iconst H k204_132 (v := 1) (by decide)
          replace H := f_iadd H k204_133
          rw [c25, K6 _ _ (by omega), K4 _ _ (by omega), K3, e2, nI_s, k999] at H
          obtain ⟨rv, m7, ⟨rfl, e9⟩, h9_134⟩ := f_ins H k204_134 (by decide +kernel) (as := [.int _, .int _]) (r := [.int _, .ref 327]) (by rfl) (c_minI (by omega) (by omega))
          replace H := h9_134
          rw [← e9] at H
          clear e9
          have eg : gcn g (p + 1) = gcn g p + 1 := by rw [gcn_s, hgt]; rfl
          have Hob := f_iast H k204_137 (c := 208) (by decide)
          clear H
          obtain ⟨hb137, H⟩ := Hob
          replace H := f_iinc H k204_138 rfl (l2 := [(2, .int (nI (gcn g p) + 1)), (4, .int (nI e)), (3, .int (nI p)), (0, .ref 314), (1, .ref 327)]) rfl
          replace H := f_iinc H k204_141 rfl (l2 := [(3, .int (nI p + 1)), (2, .int (nI (gcn g p) + 1)), (4, .int (nI e)), (0, .ref 314), (1, .ref 327)]) rfl
          replace H := f_goto H k204_144 (t := 22) (by decide)
          rw [c25, nI_s, nI_s, ← eg, show min 999 (min 999 (k + gcn g p) + 1) = min 999 (k + gcn g (p + 1)) by omega] at H
          have K7 : ∀ i v, i ≠ 25 → 16 ≤ i → (mI m6 327 25 v).1 327 i = m2.1 327 i := fun i v hi h16 => by rw [mI_ne (by omega), K6 _ _ (by omega), K4 _ _ (by omega), K3]
          refine ih (p + 1) _ (mI m6 327 25 _) (by omega) (gI_m2 hI6 (by rw [sg_cT]; exact i32_rng _)) (jM_c (by decide) hj6) (frD_sT hfr6 (by omega)) (fun a b ha hb => by rw [mI_ne (by omega), K6 _ _ (by omega), K4 _ _ (by omega)]; exact hY3 a b ha hb) (fun q hq => ?_) (fun q hq hq2 => ?_) mI_at ?_ ?_ ?_ (f_ext H (lE_cons rfl (lE_cons rfl (lE_cons rfl (lE_cons rfl (lE_cons rfl lE_nil))))) rfl rfl)
          · by_cases c : q = p
            · subst c
              rw [K7 _ _ (by omega) (by omega), efp]
              unfold fth
              rw [hgt]
              rfl
            · rw [K7 _ _ (by omega) (by omega)]; exact e1 q (by omega)
          · rw [K7 _ _ (by omega) (by omega)]; exact e1b q (by omega) hq2
          · rw [K7 _ _ (by omega) (by omega)]; exact e3
          · rw [K7 _ _ (by omega) (by omega)]; exact e4
          · rw [mI_ne (by omega), K6 _ _ (by omega), K4 _ _ (by omega), hf63 314 39 (by omega), aro_f (q := fun p => !(g p)) (by show (!(g p)) = false; rw [hgt]; rfl)]; exact e5
  have hr : rS m := hI.2
  replace H := f_aload_n H k204_0 rfl
  replace H := f_aload_n H k204_1 rfl
  replace H := f_bipush H k204_2 (v := 24) (by decide)
  have Hob := f_iald H k204_4 (c := 208) (by decide)
  clear H
  obtain ⟨hb4, H⟩ := Hob
  rw [c24, hw] at H
  obtain ⟨rv, m1, ⟨⟨rfl, f1, hY⟩, hc⟩, h9_5⟩ := f_inv H k204_5 (by decide +kernel) (as := [.int _]) (b := 314) (r := []) (by rfl) (fC_two (c_laysYards hr hT hw2) (fC_vC r52 hI hj ⟨aR_a 314, aI_a _, trivial⟩ gF_nil))
  replace H := h9_5
  have hI1 := hc.1
  have hj1 : jM m1 := jM_st (c := (0, [], [], [], r52c.2.2.2.2)) (by decide) m m1 hc.2.1 hj
  clear hc
  have K1 : ∀ a i, a ≠ 328 → m1.1 a i = m.1 a i := fun a i q => f1.2 a i q
  have hr : rS m1 := hI1.2
  replace H := f_iconst H k204_8 (v := 0) (by decide)
  replace H := f_istore_n H k204_9 (l2 := [(2, .int 0), (0, .ref 314), (1, .ref 327)]) rfl
  replace H := f_aload_n H k204_10 rfl
  replace H := f_iconst H k204_11 (v := 0) (by decide)
  replace H := f_put_i H k204_12 (ci := 12) (f := 39) (by decide +kernel) (by decide)
  replace H := f_aload_n H k204_15 rfl
  replace H := f_iconst H k204_16 (v := 0) (by decide)
  replace H := f_put_i H k204_17 (ci := 12) (f := 40) (by decide +kernel) (by decide)
  replace H := f_iconst H k204_20 (v := 0) (by decide)
  replace H := f_istore_n H k204_21 (l2 := [(3, .int 0), (2, .int 0), (0, .ref 314), (1, .ref 327)]) rfl
  replace H := f_ext H (l' := [(3, .int 0), (2, .int 0), (4, .int 0), (0, .ref 314), (1, .ref 327)]) (lE_cons rfl (lE_cons rfl (lE_cons rfl (lE_cons rfl (lE_nil))))) rfl rfl
  obtain ⟨m2, em, H⟩ := f_mem H
  have K2 : ∀ a i, ¬ (a = 314 ∧ (i = 39 ∨ i = 40)) → m2.1 a i = m1.1 a i := fun a i q => by rw [em, mI_ne (by omega), mI_ne (by omega)]
  have hI2 : gI tS tR m2 := by rw [em]; exact gI_m2 (gI_m2 hI1 (by rw [show gseg 39 (tS 314) = (iLo, iHi) by decide +kernel]; exact i32_rng _)) (by rw [show gseg 40 (tS 314) = (iLo, iHi) by decide +kernel]; exact i32_rng _)
  have hj2 : jM m2 := by rw [em]; exact jM_c (by decide) (jM_c (by decide) hj1)
  have q5 : m2.1 314 39 = 0 := by rw [em, mI_ne (by omega), mI_at]
  clear em
  exact lp _ 0 0 m2 (Nat.zero_le _) hI2 hj2 (fun a i q => by rw [K2 _ _ (by omega), K1 _ _ (by omega)]) (fun a b ha hb => by rw [K2 _ _ (by omega)]; exact hY a b ha hb) (fun q hq => absurd hq (Nat.not_lt_zero _)) (fun q _ hq => by rw [K2 _ _ (by omega), K1 _ _ (by omega)]; exact (hf q hq).1) (by rw [K2 _ _ (by omega), K1 _ _ (by omega), hk, show min 999 (k + gcn g 0) = k by show min 999 (k + 0) = k; omega]) (by rw [K2 _ _ (by omega), K1 _ _ (by omega)]; exact hd) (by rw [K2 _ _ (by omega), K1 _ _ (by omega)]; exact hl) q5 H
