
/-! forward: a day of the trial scene, the class: the scene's texts over its cells, and who lapses -/
theorem c_xcanT {m : xM} {C S w p h e : Nat} {A B : Nat → Nat} {T c : Mt} (hr : rS m) (hC : C ≤ 8) (h3 : m.1 83 3 = nI (chp A B S w C)) (hY : mX m C T c) (ht : mle 1000000 c) (hp : p < 4) (hh : m.1 97 p = nI h) (hhC : h < C) (he : e < C) : fC 6 [.ref 83, .ref 94, .int (nI p), .int (nI e)] m (fun rv m' => ((isG (chp A B S w C) c 1000000 h e ∧ rv = some (.int 1)) ∨ (¬ isG (chp A B S w C) c 1000000 h e ∧ rv = some (.int 0))) ∧ m = m') := by
  refine fC_of (by decide) (fun d n P H => ?_)
  have h1 := ht h e
  have hch : chp A B S w C < 256 := Nat.lt_of_lt_of_le (chp_lt C) (Nat.pow_le_pow_right (by omega) hC : (2 : Nat) ^ C ≤ 2 ^ 8)
  have no : ∀ n, ¬ isG (chp A B S w C) c 1000000 h e → xF 6 (xw d) P n 33 [(0, .ref 83), (1, .ref 94), (2, .int (nI p)), (3, .int (nI e))] [] m → ∃ rv m', P rv m' ∧ ((isG (chp A B S w C) c 1000000 h e ∧ rv = some (.int 1)) ∨ (¬ isG (chp A B S w C) c 1000000 h e ∧ rv = some (.int 0))) ∧ m = m' := by
    intro n hn H
    replace H := f_iconst H k6_33 (v := 0) (by decide)
    replace H := f_iret H k6_34
    exact ⟨_, _, H, Or.inr ⟨hn, rfl⟩, rfl⟩
  replace H := f_aload_n H k6_0 rfl
  replace H := f_gi H k6_1 (ci := 1) (f := 3) (by decide +kernel) (by decide)
  replace H := f_iload_n H k6_4 rfl
  replace H := f_ishr H k6_5
  replace H := f_iconst H k6_6 (v := 1) (by decide)
  replace H := f_iand H k6_7
  rw [h3, has_n (by omega) (by omega)] at H
  cases hb : (chp A B S w C).testBit e with
  | false =>
    rw [hb] at H
    replace H := f_if_eq_t H k6_8 rfl (t := 33) (by decide)
    exact no _ (fun q => absurd (hb.symm.trans q.1) (by decide)) H
  | true =>
    rw [hb] at H
    replace H := f_if_eq_f H k6_8 (by decide)
    replace H := f_aload_n H k6_11 rfl
    replace H := f_gr H k6_12 (ci := 1) (f := 1) (x := 63) (by decide +kernel) (by decide) (hr 83 1 63 rfl)
    replace H := f_aload_n H k6_15 rfl
    replace H := f_gr H k6_16 (ci := 6) (f := 5) (x := 97) (by decide +kernel) (by decide) (hr 94 5 97 rfl)
    replace H := f_iload_n H k6_19 rfl
    have Hob := f_iald H k6_20 (c := 4) (by decide)
    clear H
    obtain ⟨hb20, H⟩ := Hob
    replace H := f_iload_n H k6_21 rfl
    rw [nI_clamp (by omega), hh] at H
    obtain ⟨rv, m3, ⟨rfl, e3⟩, h9_22⟩ := f_inv H k6_22 (by decide +kernel) (as := [.int _, .int _]) (b := 63) (r := []) (by rfl) (c_yardsB hr hC hhC he hY ht)
    replace H := h9_22
    rw [← e3] at H
    clear e3
    by_cases c1 : c h e < 1000000
    · rw [if_pos c1] at H
      have h16 : c h e / 16 ≤ 100000 := by omega
      have nn : ¬ nI (c h e / 16) = -1 := fun q => by
        have := congrArg Int32.toInt q
        rw [nI_toInt (by omega), show (-1 : Int32).toInt = -1 by decide] at this
        omega
      replace H := f_iconst H k6_25 (v := -1) (by decide)
      replace H := f_icmp_eq_f H k6_26 nn
      replace H := f_iconst H k6_29 (v := 1) (by decide)
      replace H := f_goto H k6_30 (t := 34) (by decide)
      replace H := f_iret H k6_34
      exact ⟨_, _, H, Or.inl ⟨⟨hb, c1⟩, rfl⟩, rfl⟩
    · rw [if_neg c1] at H
      replace H := f_iconst H k6_25 (v := -1) (by decide)
      replace H := f_icmp_eq_t H k6_26 rfl (t := 33) (by decide)
      exact no _ (fun q => c1 q.2) H
theorem r190_fT {m m2 : xM} {vs : List Value} {rv : Option Value} (h : cPo tS tR q245c m vs rv m2) : fr190 m m2 := fun a i h1 h2 => h.2.1 a i (wm_f (fun q hm z => by
  have h9 : ∀ q ∈ q245c.2.2.2.2, (q.1 = 47 ∧ (q.2.2 ≤ 4 ∨ 6 ≤ q.2.1)) ∨ q.1 = 54 := by decide
  have := h9 q hm
  omega))
set_option maxHeartbeats 2000000 in
theorem c_pullOnT {m : xM} {C S w p h e mk f l : Nat} {A B : Nat → Nat} {T t : Mt} (hI : gI tS tR m) (hC : C ≤ 8) (h3 : m.1 83 3 = nI (chp A B S w C)) (hY : mX m C T t) (ht : mle 1000000 t) (hp : p < 4) (hh : m.1 97 p = nI h) (hhC : h < C) (he : e < C) (emk : m.1 95 e = nI mk) (hmk : mk ≤ 999) (ef : m.1 98 p = nI f) (hf : f ≤ 9) (el : m.1 96 e = nI l) (hl : l ≤ 3) : fC 7 [.ref 83, .ref 94, .int (nI p), .int (nI e)] m (fun rv m' => ∃ v : Int32, rv = some (.int v) ∧ ((v = -1000000 ∧ ¬ isG (chp A B S w C) t 1000000 h e) ∨ (-1000000 < v.toInt ∧ isG (chp A B S w C) t 1000000 h e))) := by
  refine fC_of (by decide) (fun d n P H => ?_)
  have hr : rS m := hI.2
  have hch : chp A B S w C < 256 := Nat.lt_of_lt_of_le (chp_lt C) (Nat.pow_le_pow_right (by omega) hC : (2 : Nat) ^ C ≤ 2 ^ 8)
  replace H := f_aload_n H k7_0 rfl
  replace H := f_aload_n H k7_1 rfl
  replace H := f_iload_n H k7_2 rfl
  replace H := f_iload_n H k7_3 rfl
  obtain ⟨rv, m3, ⟨ho, e3⟩, h9_4⟩ := f_inv H k7_4 (by decide +kernel) (as := [.ref 94, .int _, .int _]) (b := 83) (r := []) (by rfl) (c_xcanT hr hC h3 hY ht hp hh hhC he)
  replace H := h9_4
  rw [← e3] at H
  clear e3
  rcases ho with ⟨hg, rfl⟩ | ⟨hg, rfl⟩
  · replace H := f_if_ne_t H k7_7 (by decide) (t := 13) (by decide)
    have l1 := ht h e
    have hy : t h e < 1000000 := hg.2
    replace H := f_aload_n H k7_13 rfl
    replace H := f_gr H k7_14 (ci := 1) (f := 1) (x := 63) (by decide +kernel) (by decide) (hr 83 1 63 rfl)
    replace H := f_aload_n H k7_17 rfl
    replace H := f_gr H k7_18 (ci := 6) (f := 5) (x := 97) (by decide +kernel) (by decide) (hr 94 5 97 rfl)
    replace H := f_iload_n H k7_21 rfl
    have Hob := f_iald H k7_22 (c := 4) (by decide)
    clear H
    obtain ⟨hb22, H⟩ := Hob
    replace H := f_iload_n H k7_23 rfl
    rw [nI_clamp (by omega), hh] at H
    obtain ⟨rv, m3, ⟨rfl, e3⟩, h9_24⟩ := f_inv H k7_24 (by decide +kernel) (as := [.int _, .int _]) (b := 63) (r := []) (by rfl) (c_yardsB hr hC hhC he hY ht)
    replace H := h9_24
    rw [← e3, if_pos hy] at H
    clear e3
    replace H := f_istore H k7_27 (l2 := [(4, .int (nI (t h e / 16))), (0, .ref 83), (1, .ref 94), (2, .int (nI p)), (3, .int (nI e))]) rfl
    replace H := f_aload_n H k7_29 rfl
    replace H := f_gr H k7_30 (ci := 6) (f := 3) (x := 95) (by decide +kernel) (by decide) (hr 94 3 95 rfl)
    replace H := f_iload_n H k7_33 rfl
    have Hob := f_iald H k7_34 (c := 8) (by decide)
    clear H
    obtain ⟨hb34, H⟩ := Hob
    rw [nI_clamp (by omega), emk] at H
    replace H := f_istore H k7_35 (l2 := [(5, .int (nI mk)), (4, .int (nI (t h e / 16))), (0, .ref 83), (1, .ref 94), (2, .int (nI p)), (3, .int (nI e))]) rfl
    replace H := f_aload_n H k7_37 rfl
    replace H := f_gr H k7_38 (ci := 1) (f := 2) (x := 47) (by decide +kernel) (by decide) (hr 83 2 47 rfl)
    replace H := f_gi H k7_41 (ci := 3) (f := 5) (by decide +kernel) (by decide)
    replace H := f_iconst H k7_44 (v := -1) (by decide)
    have Hbr := f_icmp_ne H k7_45 (t := 74) (by decide)
    clear H
    rcases Hbr with ⟨c, H⟩ | ⟨c, H⟩
    · replace H := f_aload_n H k7_74 rfl
      replace H := f_gr H k7_75 (ci := 1) (f := 2) (x := 47) (by decide +kernel) (by decide) (hr 83 2 47 rfl)
      replace H := f_aload_n H k7_78 rfl
      replace H := f_gi H k7_79 (ci := 1) (f := 3) (by decide +kernel) (by decide)
      rw [h3] at H
      obtain ⟨rv, m3, ⟨rfl, e3⟩, h9_82⟩ := f_ins H k7_82 (by decide +kernel) (as := [.int _]) (r := [.ref 47]) (by rfl) (c_bitCount (v := chp A B S w C) (by omega))
      replace H := h9_82
      rw [← e3] at H
      clear e3
      replace H := f_aload_n H k7_85 rfl
      replace H := f_gi H k7_86 (ci := 6) (f := 2) (by decide +kernel) (by decide)
      obtain ⟨rv, m4, hc, h9_89⟩ := f_inv H k7_89 (by decide +kernel) (as := [.int _, .int _]) (b := 47) (r := []) (by rfl) (fC_vC q175 hI jTok ⟨aR_a 47, aI_a _, aI_a _, trivial⟩ gF_nil)
      replace H := h9_89
      obtain rfl := rv_none hc (by decide)
      have hI4 := hc.1
      have hr : rS m4 := hI4.2
      clear hc
      replace H := f_aload_n H k7_92 rfl
      replace H := f_gr H k7_93 (ci := 1) (f := 2) (x := 47) (by decide +kernel) (by decide) (hr 83 2 47 rfl)
      replace H := f_iload H k7_96 rfl
      replace H := f_iload H k7_98 rfl
      replace H := f_aload_n H k7_100 rfl
      replace H := f_gr H k7_101 (ci := 6) (f := 6) (x := 98) (by decide +kernel) (by decide) (hr 94 6 98 rfl)
      replace H := f_iload_n H k7_104 rfl
      have Hob := f_iald H k7_105 (c := 4) (by decide)
      clear H
      obtain ⟨hb105, H⟩ := Hob
      replace H := f_aload_n H k7_106 rfl
      replace H := f_gr H k7_107 (ci := 6) (f := 4) (x := 96) (by decide +kernel) (by decide) (hr 94 4 96 rfl)
      replace H := f_iload_n H k7_110 rfl
      have Hob := f_iald H k7_111 (c := 8) (by decide)
      clear H
      obtain ⟨hb111, H⟩ := Hob
      obtain ⟨rv, m5, hc, h9_112⟩ := f_inv H k7_112 (by decide +kernel) (as := [.int _, .int _, .int _, .int _]) (b := 47) (r := []) (by rfl) (fC_vC q176 hI4 jTok ⟨aR_a 47, aI_a _, aI_a _, aI_a _, aI_a _, trivial⟩ gF_nil)
      replace H := h9_112
      obtain rfl := rv_none hc (by decide)
      have hr : rS m5 := hc.1.2
      clear hc
      replace H := f_bipush H k7_115 (v := -99) (by decide)
      replace H := f_bipush H k7_117 (v := 99) (by decide)
      replace H := f_aload_n H k7_119 rfl
      replace H := f_gr H k7_120 (ci := 1) (f := 2) (x := 47) (by decide +kernel) (by decide) (hr 83 2 47 rfl)
      obtain ⟨rv, m6, ⟨z, rfl⟩, h9_123⟩ := f_inv H k7_123 (by decide +kernel) (as := []) (b := 47) (r := [.int _, .int _]) (by rfl) (fC_int (j := 29) (by decide) (by decide +kernel))
      replace H := h9_123
      obtain ⟨rv, m7, ⟨⟨z1, rfl⟩, e3⟩, h9_126⟩ := f_ins H k7_126 (by decide +kernel) (as := [.int _, .int _]) (r := [.int _]) (by rfl) (c_minA)
      replace H := h9_126
      obtain ⟨rv, m8, ⟨⟨z2, rfl, hz2⟩, e4⟩, h9_129⟩ := f_ins H k7_129 (by decide +kernel) (as := [.int _, .int _]) (r := []) (by rfl) (c_maxA)
      replace H := h9_129
      replace H := f_iret H k7_132
      refine ⟨_, _, H, _, rfl, Or.inr ⟨?_, hg⟩⟩
      rw [show (-99 : Int32).toInt = -99 by decide] at hz2
      omega
    · replace H := f_aload_n H k7_48 rfl
      replace H := f_gr H k7_49 (ci := 6) (f := 6) (x := 98) (by decide +kernel) (by decide) (hr 94 6 98 rfl)
      replace H := f_iload_n H k7_52 rfl
      have Hob := f_iald H k7_53 (c := 4) (by decide)
      clear H
      obtain ⟨hb53, H⟩ := Hob
      replace H := f_iload H k7_54 rfl
      replace H := f_iconst H k7_56 (v := 2) (by decide)
      replace H := f_idiv H k7_57
      replace H := f_iadd H k7_58
      replace H := f_iconst H k7_59 (v := 2) (by decide)
      replace H := f_aload_n H k7_60 rfl
      replace H := f_gr H k7_61 (ci := 6) (f := 4) (x := 96) (by decide +kernel) (by decide) (hr 94 4 96 rfl)
      replace H := f_iload_n H k7_64 rfl
      have Hob := f_iald H k7_65 (c := 8) (by decide)
      clear H
      obtain ⟨hb65, H⟩ := Hob
      replace H := f_imul H k7_66
      replace H := f_iadd H k7_67
      replace H := f_iload H k7_68 rfl
      replace H := f_iconst H k7_70 (v := 3) (by decide)
      replace H := f_idiv H k7_71
      replace H := f_isub H k7_72
      rw [nI_clamp (by omega), nI_clamp (by omega), ef, el, show (2 : Int32) = nI 2 from rfl, show (3 : Int32) = nI 3 from rfl, nI_div (by omega) (by omega), nI_div (by omega) (by omega), nI_mul, r_ad, r_ad] at H
      replace H := f_iret H k7_73
      refine ⟨_, _, H, _, rfl, Or.inr ⟨?_, hg⟩⟩
      have e1 : mk / 2 ≤ 500 := by omega
      have e2 : t h e / 16 / 3 ≤ 100000 := by omega
      generalize mk / 2 = u1 at *
      generalize t h e / 16 / 3 = u2 at *
      rw [Int32.toInt_sub, nI_toInt (by omega), nI_toInt (by omega), Int.bmod_eq_of_le (by omega) (by omega)]
      omega
  · replace H := f_if_ne_f H k7_7 rfl
    replace H := f_ldc_i H k7_10 (v := -1000000) (by decide +kernel)
    replace H := f_iret H k7_12
    exact ⟨_, _, H, _, rfl, Or.inl ⟨rfl, hg⟩⟩
set_option maxHeartbeats 2000000 in
theorem c_goalOfT {m : xM} {C S w p h f : Nat} {A B : Nat → Nat} {T t : Mt} (hI : gI tS tR m) (hC : C ≤ 8) (hc0 : m.1 3 0 = nI C) (h3 : m.1 83 3 = nI (chp A B S w C)) (hY : mX m C T t) (ht : mle 1000000 t) (hp : p < 4) (hh : m.1 97 p = nI h) (hhC : h < C) (hmk : ∀ e, e < C → ∃ k, m.1 95 e = nI k ∧ k ≤ 999) (ef : m.1 98 p = nI f) (hf : f ≤ 9) (hlm : ∀ e, e < C → ∃ k, m.1 96 e = nI k ∧ k ≤ 3) : fC 8 [.ref 83, .ref 94, .int (nI p)] m (fun rv m' => gI tS tR m' ∧ fr190 m m' ∧ ((rv = some (.int (-1)) ∧ ∀ e, e < C → ¬ isG (chp A B S w C) t 1000000 h e) ∨ ∃ e, e < C ∧ rv = some (.int (nI e)) ∧ isG (chp A B S w C) t 1000000 h e)) := by
  refine fC_of (by decide) (fun d n P H => ?_)
  have kM : (-1000000 : Int32).toInt = -1000000 := by decide
  have lp : ∀ n k b mo v m2, k ≤ C → gI tS tR m2 → fr190 m m2 → -1000000 ≤ mo.toInt → ((b = -1 ∧ mo = -1000000 ∧ ∀ e, e < k → ¬ isG (chp A B S w C) t 1000000 h e) ∨ ∃ e, e < C ∧ b = nI e ∧ isG (chp A B S w C) t 1000000 h e) → xF 8 (xw d) P n 9 [(5, .int (nI k)), (3, .int b), (4, .int mo), (6, .int v), (0, .ref 83), (1, .ref 94), (2, .int (nI p))] [] m2 → ∃ rv m', P rv m' ∧ gI tS tR m' ∧ fr190 m m' ∧ ((rv = some (.int (-1)) ∧ ∀ e, e < C → ¬ isG (chp A B S w C) t 1000000 h e) ∨ ∃ e, e < C ∧ rv = some (.int (nI e)) ∧ isG (chp A B S w C) t 1000000 h e) := by
    intro n
    induction n with
    | zero => exact fun k b mo v m2 _ _ _ _ _ H => (xF_0 H).elim
    | succ n ih =>
      intro k b mo v m2 hk hI2 hfr hmo hb H
      have hr : rS m2 := hI2.2
      have hY2 := mX_190 hY hfr
      have hcC : m2.1 3 0 = nI C := by rw [hfr 3 0 (by omega) (by omega)]; exact hc0
      have h32 : m2.1 83 3 = nI (chp A B S w C) := by rw [hfr _ _ (by omega) (by omega)]; exact h3
      have hh2 : m2.1 97 p = nI h := by rw [hfr _ _ (by omega) (by omega)]; exact hh
      have ef2 : m2.1 98 p = nI f := by rw [hfr _ _ (by omega) (by omega)]; exact ef
      replace H := f1_iload H k8_9 rfl
      replace H := f_aload_n H k8_11 rfl
      replace H := f_gr H k8_12 (ci := 1) (f := 0) (x := 3) (by decide +kernel) (by decide) (hr 83 0 3 rfl)
      replace H := f_gi H k8_15 (ci := 5) (f := 0) (by decide +kernel) (by decide)
      rw [hcC] at H
      have Hbr := f_icmp_ge H k8_18 (t := 51) (by decide)
      clear H
      rcases Hbr with ⟨c0, H⟩ | ⟨c0, H⟩
      · rw [nxle (by omega) (by omega)] at c0
        have ek : k = C := by omega
        subst ek
        replace H := f_iload_n H k8_51 rfl
        replace H := f_iret H k8_52
        refine ⟨_, _, H, hI2, hfr, ?_⟩
        rcases hb with ⟨rfl, -, h2⟩ | ⟨e, h1, rfl, h2⟩
        · exact Or.inl ⟨rfl, h2⟩
        · exact Or.inr ⟨e, h1, rfl, h2⟩
      · rw [nxle (by omega) (by omega)] at c0
        obtain ⟨mk, emk, hmk9⟩ := hmk k (by omega)
        obtain ⟨l, el, hl9⟩ := hlm k (by omega)
        rw [← hfr 95 k (by omega) (by omega)] at emk
        rw [← hfr 96 k (by omega) (by omega)] at el
        replace H := f_aload_n H k8_21 rfl
        replace H := f_aload_n H k8_22 rfl
        replace H := f_iload_n H k8_23 rfl
        replace H := f_iload H k8_24 rfl
        obtain ⟨rv, m3, ⟨⟨v9, rfl, hv⟩, hc⟩, h9_26⟩ := f_inv H k8_26 (by decide +kernel) (as := [.ref 94, .int _, .int _]) (b := 83) (r := []) (by rfl) (fC_two (c_pullOnT hI2 hC h32 hY2 ht hp hh2 hhC (by omega) emk hmk9 ef2 hf el hl9) (fC_vC q245 hI2 jTok ⟨aR_a 83, aR_a 94, aI_n (L := 3) (by omega) (by omega), aI_n (L := 7) (by omega) (by omega), trivial⟩ gF_nil))
        replace H := h9_26
        have hI3 := hc.1
        have hf3 := fr190_t hfr (r190_fT hc)
        clear hc
        replace H := f_istore H k8_29 (l2 := [(6, .int _), (5, .int (nI k)), (3, .int b), (4, .int mo), (0, .ref 83), (1, .ref 94), (2, .int (nI p))]) rfl
        replace H := f_iload H k8_31 rfl
        replace H := f_iload H k8_33 rfl
        have Hbr := f_icmp_le H k8_35 (t := 45) (by decide)
        clear H
        rcases Hbr with ⟨c1, H⟩ | ⟨c1, H⟩
        · rw [Int32.le_iff_toInt_le] at c1
          replace H := f_iinc H k8_45 rfl (l2 := [(5, .int (nI k + 1)), (6, .int v9), (3, .int b), (4, .int mo), (0, .ref 83), (1, .ref 94), (2, .int (nI p))]) rfl
          replace H := f_goto H k8_48 (t := 9) (by decide)
          replace H := f_ext H (l' := [(5, .int (nI k + 1)), (3, .int b), (4, .int mo), (6, .int v9), (0, .ref 83), (1, .ref 94), (2, .int (nI p))]) (lE_cons rfl (lE_cons rfl (lE_cons rfl (lE_cons rfl (lE_cons rfl (lE_cons rfl (lE_cons rfl (lE_nil)))))))) rfl rfl
          rw [nI_s] at H
          refine ih (k + 1) b mo v9 m3 (by omega) hI3 hf3 hmo ?_ H
          rcases hb with ⟨q1, q2, q3⟩ | q
          · refine Or.inl ⟨q1, q2, fun e he => ?_⟩
            by_cases ee : e = k
            · rw [ee]
              rcases hv with ⟨-, z⟩ | ⟨z, -⟩
              · exact z
              · rw [q2, kM] at c1; omega
            · exact q3 e (by omega)
          · exact Or.inr q
        · rw [Int32.le_iff_toInt_le] at c1
          replace H := f_iload H k8_38 rfl
          replace H := f_istore_n H k8_40 (l2 := [(3, .int (nI k)), (6, .int v9), (5, .int (nI k)), (4, .int mo), (0, .ref 83), (1, .ref 94), (2, .int (nI p))]) rfl
          replace H := f_iload H k8_41 rfl
          replace H := f_istore H k8_43 (l2 := [(4, .int v9), (3, .int (nI k)), (6, .int v9), (5, .int (nI k)), (0, .ref 83), (1, .ref 94), (2, .int (nI p))]) rfl
          replace H := f_iinc H k8_45 rfl (l2 := [(5, .int (nI k + 1)), (4, .int v9), (3, .int (nI k)), (6, .int v9), (0, .ref 83), (1, .ref 94), (2, .int (nI p))]) rfl
          replace H := f_goto H k8_48 (t := 9) (by decide)
          replace H := f_ext H (l' := [(5, .int (nI k + 1)), (3, .int (nI k)), (4, .int v9), (6, .int v9), (0, .ref 83), (1, .ref 94), (2, .int (nI p))]) (lE_cons rfl (lE_cons rfl (lE_cons rfl (lE_cons rfl (lE_cons rfl (lE_cons rfl (lE_cons rfl (lE_nil)))))))) rfl rfl
          rw [nI_s] at H
          refine ih (k + 1) (nI k) v9 v9 m3 (by omega) hI3 hf3 (by omega) (Or.inr ⟨k, by omega, rfl, ?_⟩) H
          rcases hv with ⟨z, -⟩ | ⟨-, z⟩
          · rw [z, kM] at c1; omega
          · exact z
  have hr : rS m := hI.2
  replace H := f_iconst H k8_0 (v := -1) (by decide)
  replace H := f_istore_n H k8_1 (l2 := [(3, .int (-1)), (0, .ref 83), (1, .ref 94), (2, .int (nI p))]) rfl
  replace H := f_ldc_i H k8_2 (v := -1000000) (by decide +kernel)
  replace H := f_istore H k8_4 (l2 := [(4, .int (-1000000)), (3, .int (-1)), (0, .ref 83), (1, .ref 94), (2, .int (nI p))]) rfl
  replace H := f_iconst H k8_6 (v := 0) (by decide)
  replace H := f_istore H k8_7 (l2 := [(5, .int 0), (4, .int (-1000000)), (3, .int (-1)), (0, .ref 83), (1, .ref 94), (2, .int (nI p))]) rfl
  replace H := f_ext H (l' := [(5, .int 0), (3, .int (-1)), (4, .int (-1000000)), (6, .int 0), (0, .ref 83), (1, .ref 94), (2, .int (nI p))]) (lE_cons rfl (lE_cons rfl (lE_cons rfl (lE_cons rfl (lE_cons rfl (lE_cons rfl (lE_nil))))))) rfl rfl
  exact lp n 0 (-1) (-1000000) 0 m (Nat.zero_le _) hI (fun _ _ _ _ => rfl) (by rw [kM]; omega) (Or.inl ⟨rfl, rfl, fun e he => absurd he (Nat.not_lt_zero _)⟩) H
theorem c_lookAtT {m : xM} {C S w : Nat} {A B Y : Nat → Nat} (hr : rS m) (hT : xT m C S A B Y) (hw : m.1 94 0 = nI w) (hw2 : w < 65536) : fC 5 [.ref 83, .ref 94] m (fun rv m' => rv = none ∧ (∀ a i, ¬ (65 ≤ a ∧ a ≤ 81) → ¬ (a = 63 ∧ i = 3) → ¬ (a = 83 ∧ i = 3) → m'.1 a i = m.1 a i) ∧ m'.1 83 3 = nI (chp A B S w C) ∧ mX m' C (wsX A B Y w S).1 (wyX C S A B Y w)) := by
  refine fC_of (by decide) (fun d n P H => ?_)
  have hS12 : S ≤ 12 := hT.2.2.2.1
  have hol : opb S w < 65536 := Nat.lt_of_lt_of_le opb_lt (Nat.le_trans (Nat.pow_le_pow_right (by omega) hS12 : (2 : Nat) ^ S ≤ 2 ^ 12) (by decide))
  have ho : ∀ i, i < S → (opb S w).testBit i = !(w.testBit i) := fun i hi => by rw [opb_bit, decide_eq_true hi, Bool.true_and]
  replace H := f_aload_n H k5_0 rfl
  replace H := f_gr H k5_1 (ci := 1) (f := 0) (x := 3) (by decide +kernel) (by decide) (hr 83 0 3 rfl)
  replace H := f_aload_n H k5_4 rfl
  replace H := f_gi H k5_5 (ci := 6) (f := 0) (by decide +kernel) (by decide)
  rw [hw] at H
  obtain ⟨rv, m3, ⟨rfl, e3⟩, h9_8⟩ := f_inv H k5_8 (by decide +kernel) (as := [.int _]) (b := 3) (r := []) (by rfl) (c_openBehind hr hT)
  replace H := h9_8
  rw [← e3] at H
  clear e3
  replace H := f_istore_n H k5_11 (l2 := [(2, .int (nI (opb S w))), (0, .ref 83), (1, .ref 94)]) rfl
  replace H := f_aload_n H k5_12 rfl
  replace H := f_aload_n H k5_13 rfl
  replace H := f_gr H k5_14 (ci := 1) (f := 0) (x := 3) (by decide +kernel) (by decide) (hr 83 0 3 rfl)
  replace H := f_iload_n H k5_17 rfl
  obtain ⟨rv, m3, ⟨rfl, e3⟩, h9_18⟩ := f_inv H k5_18 (by decide +kernel) (as := [.int _]) (b := 3) (r := [.ref 83]) (by rfl) (c_chapelsAmong hr hT ho)
  replace H := h9_18
  rw [← e3] at H
  clear e3
  have hT2 : xT (mI m 83 3 (nI (chp A B S w C))) C S A B Y := xT_f hT (fun a i h1 h2 => mI_ne (by omega))
  have hr2 : rS (mI m 83 3 (nI (chp A B S w C))) := hr
  replace H := f_put_i H k5_21 (ci := 1) (f := 3) (by decide +kernel) (by decide)
  have K1 : ∀ a i, ¬ (a = 83 ∧ i = 3) → (mI m 83 3 (nI (chp A B S w C))).1 a i = m.1 a i := fun a i h => mI_ne h
  have q3 : (mI m 83 3 (nI (chp A B S w C))).1 83 3 = nI (chp A B S w C) := mI_at
  generalize mI m 83 3 (nI (chp A B S w C)) = m4 at *
  have hr := hr2
  replace H := f_aload_n H k5_24 rfl
  replace H := f_gr H k5_25 (ci := 1) (f := 1) (x := 63) (by decide +kernel) (by decide) (hr 83 1 63 rfl)
  replace H := f_aload_n H k5_28 rfl
  replace H := f_gr H k5_29 (ci := 1) (f := 0) (x := 3) (by decide +kernel) (by decide) (hr 83 0 3 rfl)
  replace H := f_iload_n H k5_32 rfl
  obtain ⟨rv, m5, ⟨rfl, f1, f2⟩, h9_33⟩ := f_inv H k5_33 (by decide +kernel) (as := [.ref 3, .int _]) (b := 63) (r := []) (by rfl) (c_measure hr hT2 ho hol)
  replace H := h9_33
  replace H := f_ret H k5_36
  exact ⟨_, _, H, rfl, fun a i h1 h2 h3 => by rw [f1.2 a i h1 h2]; exact K1 a i h3, by rw [f1.2 83 3 (by omega) (by omega)]; exact q3, f2⟩
/-- what a day leaves alone in the class -/
def frPT (m m2 : xM) : Prop := ∀ a i, ¬ (a = 47 ∧ i ≠ 4 ∧ i ≠ 5) → a ≠ 54 → ¬ (a = 83 ∧ 4 ≤ i) → ¬ (a = 94 ∧ (i = 1 ∨ i = 2)) → a ≠ 95 → a ≠ 98 → m2.1 a i = m.1 a i
theorem frP_tT {m m1 m2 : xM} (h : frPT m m1) (g : frPT m1 m2) : frPT m m2 := fun a i q1 q2 q3 q4 q5 q6 => (g a i q1 q2 q3 q4 q5 q6).trans (h a i q1 q2 q3 q4 q5 q6)
theorem frP_190T {m m2 : xM} (h : fr190 m m2) : frPT m m2 := fun a i q1 q2 _ _ _ _ => h a i q1 q2
theorem frP_sT {m m2 : xM} {a i : Nat} {v : Int32} (h : frPT m m2) (ha : (a = 83 ∧ 4 ≤ i) ∨ (a = 94 ∧ (i = 1 ∨ i = 2)) ∨ a = 95 ∨ a = 98) : frPT m (mI m2 a i v) := fun b j q1 q2 q3 q4 q5 q6 => by rw [mI_ne (by omega)]; exact h b j q1 q2 q3 q4 q5 q6
theorem mX_PT {m m2 : xM} {C : Nat} {T t : Mt} (hY : mX m C T t) (hC : C ≤ 8) (h : frPT m m2) : mX m2 C T t := ⟨by rw [h _ _ (by omega) (by omega) (by omega) (by omega) (by omega) (by omega)]; exact hY.1, fun a b ha hb => by rw [h _ _ (by omega) (by omega) (by omega) (by omega) (by omega) (by omega), h _ _ (by omega) (by omega) (by omega) (by omega) (by omega) (by omega)]; exact hY.2 a b ha hb⟩
theorem sx_fT : ∀ p : Fin 4, gseg p.val (tS 98) = (iLo, iHi) := by decide +kernel
theorem sx_mT : ∀ p : Fin 8, gseg p.val (tS 95) = (iLo, iHi) := by decide +kernel
set_option maxHeartbeats 4000000 in
theorem c_passDayT {m : xM} {C S W w k d0 : Nat} {A B h f : Nat → Nat} {T t : Mt} {g : Nat → Bool} (hgp : ∀ p, g p = anyG (chp A B S w C) t 1000000 (h p) C) (hI : gI tS tR m) (hC8 : C ≤ 8) (hc0 : m.1 3 0 = nI C) (hW : m.1 3 2 = nI W) (hW4 : W ≤ 4) (h3 : m.1 83 3 = nI (chp A B S w C)) (hY : mX m C T t) (ht : mle 1000000 t) (hh : ∀ p, p < W → m.1 97 p = nI (h p) ∧ h p < C) (hf : ∀ p, p < W → m.1 98 p = nI (f p) ∧ f p ≤ 9) (hmk : ∀ e, e < 8 → ∃ k, m.1 95 e = nI k ∧ k ≤ 999) (hlm : ∀ e, e < 8 → ∃ k, m.1 96 e = nI k ∧ k ≤ 3) (hk : m.1 94 1 = nI k) (hk9 : k ≤ 999) (hd : m.1 94 2 = nI d0) (hd9 : d0 ≤ 2000) : fC 9 [.ref 83, .ref 94] m (fun rv m' => rv = none ∧ frPT m m' ∧ (∀ p, p < W → m'.1 98 p = nI (fth g f p)) ∧ (∀ p, W ≤ p → m'.1 98 p = m.1 98 p) ∧ (∀ e, e < 8 → ∃ k, m'.1 95 e = nI k ∧ k ≤ 999) ∧ m'.1 94 1 = nI (min 999 (k + gcn g W)) ∧ m'.1 94 2 = nI (d0 + 1) ∧ m'.1 83 6 = nI (gcn g W) ∧ m'.1 83 5 = nI (aro (fun p => !(g p)) W)) := by
  refine fC_of (by decide) (fun d n P H => ?_)
  have k999 : (999 : Int32) = nI 999 := rfl
  have lp : ∀ n p z3 m2, p ≤ W → gI tS tR m2 → frPT m m2 → (∀ q, q < p → m2.1 98 q = nI (fth g f q)) → (∀ q, p ≤ q → m2.1 98 q = m.1 98 q) → (∀ e, e < 8 → ∃ k, m2.1 95 e = nI k ∧ k ≤ 999) → m2.1 94 1 = nI k → m2.1 94 2 = nI d0 → m2.1 83 6 = nI (gcn g p) → m2.1 83 5 = nI (aro (fun p => !(g p)) p) → xF 9 (xw d) P n 17 [(2, .int (nI p)), (3, .int z3), (0, .ref 83), (1, .ref 94)] [] m2 → ∃ rv m', P rv m' ∧ rv = none ∧ frPT m m' ∧ (∀ p, p < W → m'.1 98 p = nI (fth g f p)) ∧ (∀ p, W ≤ p → m'.1 98 p = m.1 98 p) ∧ (∀ e, e < 8 → ∃ k, m'.1 95 e = nI k ∧ k ≤ 999) ∧ m'.1 94 1 = nI (min 999 (k + gcn g W)) ∧ m'.1 94 2 = nI (d0 + 1) ∧ m'.1 83 6 = nI (gcn g W) ∧ m'.1 83 5 = nI (aro (fun p => !(g p)) W) := by
    intro n
    induction n with
    | zero => exact fun p z3 m2 _ _ _ _ _ _ _ _ _ _ H => (xF_0 H).elim
    | succ n ih =>
      intro p z3 m2 hp hI2 hfr e1 e1b em e2 e3 e4 e5 H
      have hr : rS m2 := hI2.2
      have gle := gcn_le (g := g) p
      have FR : ∀ a i, ¬ (a = 47 ∧ i ≠ 4 ∧ i ≠ 5) → a ≠ 54 → ¬ (a = 83 ∧ 4 ≤ i) → ¬ (a = 94 ∧ (i = 1 ∨ i = 2)) → a ≠ 95 → a ≠ 98 → m2.1 a i = m.1 a i := hfr
      have eW : m2.1 3 2 = nI W := by rw [FR 3 2 (by omega) (by omega) (by omega) (by omega) (by omega) (by omega)]; exact hW
      replace H := f1_iload_n H k9_17 rfl
      replace H := f_aload_n H k9_18 rfl
      replace H := f_gr H k9_19 (ci := 1) (f := 0) (x := 3) (by decide +kernel) (by decide) (hr 83 0 3 rfl)
      replace H := f_gi H k9_22 (ci := 5) (f := 2) (by decide +kernel) (by decide)
      rw [eW] at H
      have Hbr := f_icmp_ge H k9_25 (t := 121) (by decide)
      clear H
      rcases Hbr with ⟨k0, H⟩ | ⟨k0, H⟩
      · rw [nxle (by omega) (by omega)] at k0
        have ep : p = W := by omega
        subst ep
        replace H := f_aload_n H k9_121 rfl
        replace H := f_sipush H k9_122 (v := 999) (by decide)
        replace H := f_aload_n H k9_125 rfl
        replace H := f_gi H k9_126 (ci := 6) (f := 1) (by decide +kernel) (by decide)
        replace H := f_aload_n H k9_129 rfl
        replace H := f_gi H k9_130 (ci := 1) (f := 6) (by decide +kernel) (by decide)
        replace H := f_iadd H k9_133
        rw [e2, e4, r_ad, k999] at H
        obtain ⟨rv, m3, ⟨rfl, e9⟩, h9_134⟩ := f_ins H k9_134 (by decide +kernel) (as := [.int _, .int _]) (r := [.ref 94]) (by rfl) (c_minI (by omega) (by omega))
        replace H := h9_134
        rw [← e9] at H
        clear e9
        replace H := f_put_i H k9_137 (ci := 6) (f := 1) (by decide +kernel) (by decide)
        replace H := f_aload_n H k9_140 rfl
        replace H := f_dup H k9_141
        replace H := f_gi H k9_142 (ci := 6) (f := 2) (by decide +kernel) (by decide)
        replace H := f_iconst H k9_145 (v := 1) (by decide)
        replace H := f_iadd H k9_146
        replace H := f_put_i H k9_147 (ci := 6) (f := 2) (by decide +kernel) (by decide)
        rw [mI_ne (by omega), e3, nI_s] at H
        replace H := f_ret H k9_150
        refine ⟨_, _, H, rfl, frP_sT (frP_sT hfr (by omega)) (by omega), fun q hq => ?_, fun q hq => ?_, fun e he => ?_, ?_, mI_at, ?_, ?_⟩
        · rw [mI_ne (by omega), mI_ne (by omega)]; exact e1 q hq
        · rw [mI_ne (by omega), mI_ne (by omega)]; exact e1b q hq
        · rw [mI_ne (by omega), mI_ne (by omega)]; exact em e he
        · rw [mI_ne (by omega), mI_at]
        · rw [mI_ne (by omega), mI_ne (by omega)]; exact e4
        · rw [mI_ne (by omega), mI_ne (by omega)]; exact e5
      · rw [nxle (by omega) (by omega)] at k0
        obtain ⟨hh1, hh2⟩ := hh p (by omega)
        obtain ⟨hf1, hf9⟩ := hf p (by omega)
        have efp : m2.1 98 p = nI (f p) := by rw [e1b p (Nat.le_refl _)]; exact hf1
        replace H := f_aload_n H k9_28 rfl
        replace H := f_aload_n H k9_29 rfl
        replace H := f_iload_n H k9_30 rfl
        obtain ⟨rv, m3, ⟨hI3, f190, ho⟩, h9_31⟩ := f_inv H k9_31 (by decide +kernel) (as := [.ref 94, .int _]) (b := 83) (r := []) (by rfl) (c_goalOfT hI2 hC8 (by rw [FR 3 0 (by omega) (by omega) (by omega) (by omega) (by omega) (by omega)]; exact hc0) (by rw [FR 83 3 (by omega) (by omega) (by omega) (by omega) (by omega) (by omega)]; exact h3) (mX_PT hY hC8 hfr) ht (by omega) (by rw [FR 97 _ (by omega) (by omega) (by omega) (by omega) (by omega) (by omega)]; exact hh1) hh2 (fun e he => em e (by omega)) efp hf9 (fun e he => by rw [FR 96 _ (by omega) (by omega) (by omega) (by omega) (by omega) (by omega)]; exact hlm e (by omega)))
        replace H := h9_31
        have hr : rS m3 := hI3.2
        have hfr3 := frP_tT hfr (frP_190T f190)
        have K3 : ∀ a i, a ≠ 47 → a ≠ 54 → m3.1 a i = m2.1 a i := fun a i q1 q2 => f190 a i (fun z => q1 z.1) q2
        rcases ho with ⟨rfl, hno⟩ | ⟨e, he, rfl, hyes⟩
        · have hgf : g p = false := by rw [hgp]; exact anyG_f.mpr hno
          have eg : gcn g (p + 1) = gcn g p := by rw [gcn_s, hgf]; rfl
          replace H := f_istore_n H k9_34 (l2 := [(3, .int _), (2, .int (nI p)), (0, .ref 83), (1, .ref 94)]) rfl
          replace H := f_iload_n H k9_35 rfl
          replace H := f_iconst H k9_36 (v := -1) (by decide)
          replace H := f_icmp_ne_f H k9_37 rfl
          replace H := f_aload_n H k9_40 rfl
          replace H := f_dup H k9_41
          replace H := f_gi H k9_42 (ci := 1) (f := 5) (by decide +kernel) (by decide)
          replace H := f_iconst H k9_45 (v := 1) (by decide)
          replace H := f_iload_n H k9_46 rfl
          replace H := f_ishl H k9_47
          replace H := f_ior H k9_48
          replace H := f_put_i H k9_49 (ci := 1) (f := 5) (by decide +kernel) (by decide)
          obtain ⟨m4, e4m, H⟩ := f_mem H
          have K4 : ∀ a i, ¬ (a = 83 ∧ i = 5) → m4.1 a i = m3.1 a i := fun a i q => by rw [e4m, mI_ne q]
          have hI4 : gI tS tR m4 := by rw [e4m]; exact gI_x hI3 (by decide +kernel)
          have hfr4 : frPT m m4 := by rw [e4m]; exact frP_sT hfr3 (by omega)
          have q5 : m4.1 83 5 = nI (aro (fun p => !(g p)) (p + 1)) := by
            rw [e4m, mI_at, K3 83 5 (by omega) (by omega), e5, shl_n (by omega), aro_t (q := fun p => !(g p)) (by show (!(g p)) = true; rw [hgf]; rfl)]
            exact fa_or _ _
          clear e4m
          have hr : rS m4 := hI4.2
          replace H := f_aload_n H k9_52 rfl
          replace H := f_gr H k9_53 (ci := 6) (f := 6) (x := 98) (by decide +kernel) (by decide) (hr 94 6 98 rfl)
          replace H := f_iload_n H k9_56 rfl
          replace H := f_iconst H k9_57 (v := 0) (by decide)
          replace H := f_aload_n H k9_58 rfl
          replace H := f_gr H k9_59 (ci := 6) (f := 6) (x := 98) (by decide +kernel) (by decide) (hr 94 6 98 rfl)
          replace H := f_iload_n H k9_62 rfl
          have Hob := f_iald H k9_63 (c := 4) (by decide)
          clear H
          obtain ⟨hb63, H⟩ := Hob
          replace H := f_iconst H k9_64 (v := 1) (by decide)
          replace H := f_isub H k9_65
          rw [nI_clamp (by omega), K4 _ _ (by omega), K3 _ _ (by omega) (by omega), efp] at H
          obtain ⟨rv, m5, ⟨rfl, e9⟩, h9_66⟩ := f_ins H k9_66 (by decide +kernel) (as := [.int _, .int _]) (r := [.int _, .ref 98]) (by rfl) (c_max0 (by omega))
          replace H := h9_66
          rw [← e9] at H
          clear e9
          have Hob := f_iast H k9_69 (c := 4) (by decide)
          clear H
          obtain ⟨hb69, H⟩ := Hob
          replace H := f_goto H k9_70 (t := 115) (by decide)
          replace H := f_iinc H k9_115 rfl (l2 := [(2, .int (nI p + 1)), (3, .int (-1)), (0, .ref 83), (1, .ref 94)]) rfl
          replace H := f_goto H k9_118 (t := 17) (by decide)
          rw [nI_clamp (by omega), nI_s] at H
          refine ih (p + 1) _ (mI m4 98 p (nI (f p - 1))) (by omega) (gI_x hI4 (sx_fT ⟨p, by omega⟩)) (frP_sT hfr4 (by omega)) (fun q hq => ?_) (fun q hq => ?_) (fun e he => ?_) ?_ ?_ ?_ ?_ H
          · by_cases c : q = p
            · subst c
              rw [mI_at]
              unfold fth
              rw [hgf]
              rfl
            · rw [mI_ne (by omega), K4 _ _ (by omega), K3 _ _ (by omega) (by omega)]; exact e1 q (by omega)
          · rw [mI_ne (by omega), K4 _ _ (by omega), K3 _ _ (by omega) (by omega)]; exact e1b q (by omega)
          · rw [mI_ne (by omega), K4 _ _ (by omega), K3 _ _ (by omega) (by omega)]; exact em e he
          · rw [mI_ne (by omega), K4 _ _ (by omega), K3 _ _ (by omega) (by omega)]; exact e2
          · rw [mI_ne (by omega), K4 _ _ (by omega), K3 _ _ (by omega) (by omega)]; exact e3
          · rw [mI_ne (by omega), K4 _ _ (by omega), K3 _ _ (by omega) (by omega), eg]; exact e4
          · rw [mI_ne (by omega)]; exact q5
        · have hgt : g p = true := by rw [hgp]; exact anyG_t.mpr ⟨e, he, hyes⟩
          have eg : gcn g (p + 1) = gcn g p + 1 := by rw [gcn_s, hgt]; rfl
          obtain ⟨mk, emk, hmk9⟩ := em e (by omega)
          replace H := f_istore_n H k9_34 (l2 := [(3, .int _), (2, .int (nI p)), (0, .ref 83), (1, .ref 94)]) rfl
          replace H := f_iload_n H k9_35 rfl
          replace H := f_iconst H k9_36 (v := -1) (by decide)
          replace H := f_icmp_ne_t H k9_37 (nI_n1 (N := 8) (by omega) (by decide)) (t := 73) (by decide)
          replace H := f_aload_n H k9_73 rfl
          replace H := f_dup H k9_74
          replace H := f_gi H k9_75 (ci := 1) (f := 4) (by decide +kernel) (by decide)
          replace H := f_iconst H k9_78 (v := 1) (by decide)
          replace H := f_iload_n H k9_79 rfl
          replace H := f_ishl H k9_80
          replace H := f_ior H k9_81
          replace H := f_put_i H k9_82 (ci := 1) (f := 4) (by decide +kernel) (by decide)
          replace H := f_aload_n H k9_85 rfl
          replace H := f_dup H k9_86
          replace H := f_gi H k9_87 (ci := 1) (f := 6) (by decide +kernel) (by decide)
          replace H := f_iconst H k9_90 (v := 1) (by decide)
          replace H := f_iadd H k9_91
          replace H := f_put_i H k9_92 (ci := 1) (f := 6) (by decide +kernel) (by decide)
          rw [mI_ne (by omega), K3 83 6 (by omega) (by omega), e4, nI_s] at H
          obtain ⟨m4, e4m, H⟩ := f_mem H
          have q6 : m4.1 83 6 = nI (gcn g p + 1) := by rw [e4m, mI_at]
          have K4 : ∀ a i, ¬ (a = 83 ∧ (i = 4 ∨ i = 6)) → m4.1 a i = m3.1 a i := fun a i q => by rw [e4m, mI_ne (by omega), mI_ne (by omega)]
          have hI4 : gI tS tR m4 := by rw [e4m]; exact gI_x (gI_x hI3 (by decide +kernel)) (by decide +kernel)
          have hfr4 : frPT m m4 := by rw [e4m]; exact frP_sT (frP_sT hfr3 (by omega)) (by omega)
          clear e4m
          have hr : rS m4 := hI4.2
          replace H := f_aload_n H k9_95 rfl
          replace H := f_gr H k9_96 (ci := 6) (f := 3) (x := 95) (by decide +kernel) (by decide) (hr 94 3 95 rfl)
          replace H := f_iload_n H k9_99 rfl
          replace H := f_sipush H k9_100 (v := 999) (by decide)
          replace H := f_aload_n H k9_103 rfl
          replace H := f_gr H k9_104 (ci := 6) (f := 3) (x := 95) (by decide +kernel) (by decide) (hr 94 3 95 rfl)
          replace H := f_iload_n H k9_107 rfl
          have Hob := f_iald H k9_108 (c := 8) (by decide)
          clear H
          obtain ⟨hb108, H⟩ := Hob
          replace H := f_iconst H k9_109 (v := 1) (by decide)
          replace H := f_iadd H k9_110
          rw [nI_clamp (by omega), K4 _ _ (by omega), K3 _ _ (by omega) (by omega), emk, nI_s, k999] at H
          obtain ⟨rv, m5, ⟨rfl, e9⟩, h9_111⟩ := f_ins H k9_111 (by decide +kernel) (as := [.int _, .int _]) (r := [.int _, .ref 95]) (by rfl) (c_minI (by omega) (by omega))
          replace H := h9_111
          rw [← e9] at H
          clear e9
          have Hob := f_iast H k9_114 (c := 8) (by decide)
          clear H
          obtain ⟨hb114, H⟩ := Hob
          replace H := f_iinc H k9_115 rfl (l2 := [(2, .int (nI p + 1)), (3, .int (nI e)), (0, .ref 83), (1, .ref 94)]) rfl
          replace H := f_goto H k9_118 (t := 17) (by decide)
          rw [nI_clamp (by omega), nI_s] at H
          refine ih (p + 1) _ (mI m4 95 e (nI (min 999 (mk + 1)))) (by omega) (gI_x hI4 (sx_mT ⟨e, by omega⟩)) (frP_sT hfr4 (by omega)) (fun q hq => ?_) (fun q hq => ?_) (fun e2 he2 => ?_) ?_ ?_ ?_ ?_ (f_ext H (lE_cons rfl (lE_cons rfl (lE_cons rfl (lE_cons rfl lE_nil)))) rfl rfl)
          · by_cases c : q = p
            · subst c
              rw [mI_ne (by omega), K4 _ _ (by omega), K3 _ _ (by omega) (by omega), efp]
              unfold fth
              rw [hgt]
              rfl
            · rw [mI_ne (by omega), K4 _ _ (by omega), K3 _ _ (by omega) (by omega)]; exact e1 q (by omega)
          · rw [mI_ne (by omega), K4 _ _ (by omega), K3 _ _ (by omega) (by omega)]; exact e1b q (by omega)
          · by_cases c : e2 = e
            · subst c
              rw [mI_at]
              exact ⟨_, rfl, by omega⟩
            · rw [mI_ne (by omega), K4 _ _ (by omega), K3 _ _ (by omega) (by omega)]; exact em e2 he2
          · rw [mI_ne (by omega), K4 _ _ (by omega), K3 _ _ (by omega) (by omega)]; exact e2
          · rw [mI_ne (by omega), K4 _ _ (by omega), K3 _ _ (by omega) (by omega)]; exact e3
          · rw [mI_ne (by omega), q6, eg]
          · rw [mI_ne (by omega), K4 _ _ (by omega), K3 _ _ (by omega) (by omega), aro_f (q := fun p => !(g p)) (by show (!(g p)) = false; rw [hgt]; rfl)]; exact e5
  have hr : rS m := hI.2
  replace H := f_aload_n H k9_0 rfl
  replace H := f_iconst H k9_1 (v := 0) (by decide)
  replace H := f_put_i H k9_2 (ci := 1) (f := 4) (by decide +kernel) (by decide)
  replace H := f_aload_n H k9_5 rfl
  replace H := f_iconst H k9_6 (v := 0) (by decide)
  replace H := f_put_i H k9_7 (ci := 1) (f := 5) (by decide +kernel) (by decide)
  replace H := f_aload_n H k9_10 rfl
  replace H := f_iconst H k9_11 (v := 0) (by decide)
  replace H := f_put_i H k9_12 (ci := 1) (f := 6) (by decide +kernel) (by decide)
  replace H := f_iconst H k9_15 (v := 0) (by decide)
  replace H := f_istore_n H k9_16 (l2 := [(2, .int 0), (0, .ref 83), (1, .ref 94)]) rfl
  replace H := f_ext H (l' := [(2, .int 0), (3, .int 0), (0, .ref 83), (1, .ref 94)]) (lE_cons rfl (lE_cons rfl (lE_cons rfl (lE_nil)))) rfl rfl
  obtain ⟨m2, e2m, H⟩ := f_mem H
  have K2 : ∀ a i, ¬ (a = 83 ∧ 4 ≤ i) → m2.1 a i = m.1 a i := fun a i q => by rw [e2m, mI_ne (by omega), mI_ne (by omega), mI_ne (by omega)]
  have q6 : m2.1 83 6 = 0 := by rw [e2m, mI_at]
  have q5 : m2.1 83 5 = 0 := by rw [e2m, mI_ne (by omega), mI_at]
  have hI2 : gI tS tR m2 := by rw [e2m]; exact gI_x (gI_x (gI_x hI (by decide +kernel)) (by decide +kernel)) (by decide +kernel)
  clear e2m
  exact lp n 0 0 m2 (Nat.zero_le _) hI2 (fun a i _ _ q _ _ _ => K2 a i q) (fun q hq => absurd hq (Nat.not_lt_zero _)) (fun q _ => K2 _ _ (by omega)) (fun e he => by rw [K2 _ _ (by omega)]; exact hmk e he) (by rw [K2 _ _ (by omega)]; exact hk) (by rw [K2 _ _ (by omega)]; exact hd) q6 q5 H
