theorem k212_0 : lkc 0 (kcode 212) = some (.aload_n 0) := by decide +kernel
theorem k212_1 : lkc 1 (kcode 212) = some (.iconst 0) := by decide +kernel
theorem k212_2 : lkc 2 (kcode 212) = some (.putfield 90) := by decide +kernel
theorem k212_5 : lkc 5 (kcode 212) = some (.aload_n 0) := by decide +kernel
theorem k212_6 : lkc 6 (kcode 212) = some (.getfield 283) := by decide +kernel
theorem k212_9 : lkc 9 (kcode 212) = some (.ifCond .eq 16) := by decide +kernel
theorem k212_12 : lkc 12 (kcode 212) = some (.aload_n 0) := by decide +kernel
theorem k212_13 : lkc 13 (kcode 212) = some (.getfield 58) := by decide +kernel
theorem k212_16 : lkc 16 (kcode 212) = some (.bipush 26) := by decide +kernel
theorem k212_18 : lkc 18 (kcode 212) = some (.iaload) := by decide +kernel
theorem k212_19 : lkc 19 (kcode 212) = some (.sipush 999) := by decide +kernel
theorem k212_22 : lkc 22 (kcode 212) = some (.if_icmp .ne 5) := by decide +kernel
theorem k212_25 : lkc 25 (kcode 212) = some (.iconst (-1)) := by decide +kernel
theorem k212_26 : lkc 26 (kcode 212) = some (.ireturn) := by decide +kernel
theorem k212_27 : lkc 27 (kcode 212) = some (.aload_n 0) := by decide +kernel
theorem k212_28 : lkc 28 (kcode 212) = some (.invokevirtual 367) := by decide +kernel
theorem k212_31 : lkc 31 (kcode 212) = some (.aload_n 0) := by decide +kernel
theorem k212_32 : lkc 32 (kcode 212) = some (.aload_n 0) := by decide +kernel
theorem k212_33 : lkc 33 (kcode 212) = some (.getfield 58) := by decide +kernel
theorem k212_36 : lkc 36 (kcode 212) = some (.invokevirtual 370) := by decide +kernel
theorem k212_39 : lkc 39 (kcode 212) = some (.ireturn) := by decide +kernel
theorem k220_0 : lkc 0 (kcode 220) = some (.aload_n 0) := by decide +kernel
theorem k220_1 : lkc 1 (kcode 220) = some (.iconst 0) := by decide +kernel
theorem k220_2 : lkc 2 (kcode 220) = some (.putfield 90) := by decide +kernel
theorem k220_5 : lkc 5 (kcode 220) = some (.aload_n 0) := by decide +kernel
theorem k220_6 : lkc 6 (kcode 220) = some (.getfield 292) := by decide +kernel
theorem k220_9 : lkc 9 (kcode 220) = some (.ifCond .ne 5) := by decide +kernel
theorem k220_12 : lkc 12 (kcode 220) = some (.iconst (-1)) := by decide +kernel
theorem k220_13 : lkc 13 (kcode 220) = some (.ireturn) := by decide +kernel
theorem k220_14 : lkc 14 (kcode 220) = some (.aload_n 0) := by decide +kernel
theorem k220_15 : lkc 15 (kcode 220) = some (.dup) := by decide +kernel
theorem k220_16 : lkc 16 (kcode 220) = some (.getfield 292) := by decide +kernel
theorem k220_19 : lkc 19 (kcode 220) = some (.iconst 1) := by decide +kernel
theorem k220_20 : lkc 20 (kcode 220) = some (.isub) := by decide +kernel
theorem k220_21 : lkc 21 (kcode 220) = some (.putfield 292) := by decide +kernel
theorem k220_24 : lkc 24 (kcode 220) = some (.iconst 0) := by decide +kernel
theorem k220_25 : lkc 25 (kcode 220) = some (.istore_n 1) := by decide +kernel
theorem k220_26 : lkc 26 (kcode 220) = some (.iload_n 1) := by decide +kernel
theorem k220_27 : lkc 27 (kcode 220) = some (.sipush 208) := by decide +kernel
theorem k220_30 : lkc 30 (kcode 220) = some (.if_icmp .ge 30) := by decide +kernel
theorem k220_33 : lkc 33 (kcode 220) = some (.aload_n 0) := by decide +kernel
theorem k220_34 : lkc 34 (kcode 220) = some (.getfield 58) := by decide +kernel
theorem k220_37 : lkc 37 (kcode 220) = some (.iload_n 1) := by decide +kernel
theorem k220_38 : lkc 38 (kcode 220) = some (.aload_n 0) := by decide +kernel
theorem k220_39 : lkc 39 (kcode 220) = some (.getfield 81) := by decide +kernel
theorem k220_42 : lkc 42 (kcode 220) = some (.sipush 208) := by decide +kernel
theorem k220_45 : lkc 45 (kcode 220) = some (.aload_n 0) := by decide +kernel
theorem k220_46 : lkc 46 (kcode 220) = some (.getfield 292) := by decide +kernel
theorem k220_49 : lkc 49 (kcode 220) = some (.imul) := by decide +kernel
theorem k220_50 : lkc 50 (kcode 220) = some (.iload_n 1) := by decide +kernel
theorem k220_51 : lkc 51 (kcode 220) = some (.iadd) := by decide +kernel
theorem k220_52 : lkc 52 (kcode 220) = some (.iaload) := by decide +kernel
theorem k220_53 : lkc 53 (kcode 220) = some (.iastore) := by decide +kernel
theorem k220_54 : lkc 54 (kcode 220) = some (.iinc 1 1) := by decide +kernel
theorem k220_57 : lkc 57 (kcode 220) = some (.goto (-31)) := by decide +kernel
theorem k220_60 : lkc 60 (kcode 220) = some (.aload_n 0) := by decide +kernel
theorem k220_61 : lkc 61 (kcode 220) = some (.getfield 292) := by decide +kernel
theorem k220_64 : lkc 64 (kcode 220) = some (.ireturn) := by decide +kernel
theorem k261_0 : lkc 0 (kcode 261) = some (.aload_n 0) := by decide +kernel
theorem k261_1 : lkc 1 (kcode 261) = some (.iconst 0) := by decide +kernel
theorem k261_2 : lkc 2 (kcode 261) = some (.putfield 90) := by decide +kernel
theorem k261_5 : lkc 5 (kcode 261) = some (.aload_n 0) := by decide +kernel
theorem k261_6 : lkc 6 (kcode 261) = some (.getfield 283) := by decide +kernel
theorem k261_9 : lkc 9 (kcode 261) = some (.ifCond .ne 5) := by decide +kernel
theorem k261_12 : lkc 12 (kcode 261) = some (.iconst (-1)) := by decide +kernel
theorem k261_13 : lkc 13 (kcode 261) = some (.ireturn) := by decide +kernel
theorem k261_14 : lkc 14 (kcode 261) = some (.iconst 0) := by decide +kernel
theorem k261_15 : lkc 15 (kcode 261) = some (.istore_n 1) := by decide +kernel
theorem k261_16 : lkc 16 (kcode 261) = some (.iload_n 1) := by decide +kernel
theorem k261_17 : lkc 17 (kcode 261) = some (.sipush 208) := by decide +kernel
theorem k261_20 : lkc 20 (kcode 261) = some (.if_icmp .ge 21) := by decide +kernel
theorem k261_23 : lkc 23 (kcode 261) = some (.aload_n 0) := by decide +kernel
theorem k261_24 : lkc 24 (kcode 261) = some (.getfield 87) := by decide +kernel
theorem k261_27 : lkc 27 (kcode 261) = some (.iload_n 1) := by decide +kernel
theorem k261_28 : lkc 28 (kcode 261) = some (.aload_n 0) := by decide +kernel
theorem k261_29 : lkc 29 (kcode 261) = some (.getfield 58) := by decide +kernel
theorem k261_32 : lkc 32 (kcode 261) = some (.iload_n 1) := by decide +kernel
theorem k261_33 : lkc 33 (kcode 261) = some (.iaload) := by decide +kernel
theorem k261_34 : lkc 34 (kcode 261) = some (.iastore) := by decide +kernel
theorem k261_35 : lkc 35 (kcode 261) = some (.iinc 1 1) := by decide +kernel
theorem k261_38 : lkc 38 (kcode 261) = some (.goto (-22)) := by decide +kernel
theorem k261_41 : lkc 41 (kcode 261) = some (.aload_n 0) := by decide +kernel
theorem k261_42 : lkc 42 (kcode 261) = some (.iconst 1) := by decide +kernel
theorem k261_43 : lkc 43 (kcode 261) = some (.putfield 295) := by decide +kernel
theorem k261_46 : lkc 46 (kcode 261) = some (.aload_n 0) := by decide +kernel
theorem k261_47 : lkc 47 (kcode 261) = some (.getfield 58) := by decide +kernel
theorem k261_50 : lkc 50 (kcode 261) = some (.bipush 26) := by decide +kernel
theorem k261_52 : lkc 52 (kcode 261) = some (.iaload) := by decide +kernel
theorem k261_53 : lkc 53 (kcode 261) = some (.ireturn) := by decide +kernel
theorem k262_0 : lkc 0 (kcode 262) = some (.aload_n 0) := by decide +kernel
theorem k262_1 : lkc 1 (kcode 262) = some (.iconst 0) := by decide +kernel
theorem k262_2 : lkc 2 (kcode 262) = some (.putfield 90) := by decide +kernel
theorem k262_5 : lkc 5 (kcode 262) = some (.aload_n 0) := by decide +kernel
theorem k262_6 : lkc 6 (kcode 262) = some (.getfield 295) := by decide +kernel
theorem k262_9 : lkc 9 (kcode 262) = some (.ifCond .ne 5) := by decide +kernel
theorem k262_12 : lkc 12 (kcode 262) = some (.iconst (-1)) := by decide +kernel
theorem k262_13 : lkc 13 (kcode 262) = some (.ireturn) := by decide +kernel
theorem k262_14 : lkc 14 (kcode 262) = some (.iconst 0) := by decide +kernel
theorem k262_15 : lkc 15 (kcode 262) = some (.istore_n 1) := by decide +kernel
theorem k262_16 : lkc 16 (kcode 262) = some (.iload_n 1) := by decide +kernel
theorem k262_17 : lkc 17 (kcode 262) = some (.sipush 208) := by decide +kernel
theorem k262_20 : lkc 20 (kcode 262) = some (.if_icmp .ge 21) := by decide +kernel
theorem k262_23 : lkc 23 (kcode 262) = some (.aload_n 0) := by decide +kernel
theorem k262_24 : lkc 24 (kcode 262) = some (.getfield 58) := by decide +kernel
theorem k262_27 : lkc 27 (kcode 262) = some (.iload_n 1) := by decide +kernel
theorem k262_28 : lkc 28 (kcode 262) = some (.aload_n 0) := by decide +kernel
theorem k262_29 : lkc 29 (kcode 262) = some (.getfield 87) := by decide +kernel
theorem k262_32 : lkc 32 (kcode 262) = some (.iload_n 1) := by decide +kernel
theorem k262_33 : lkc 33 (kcode 262) = some (.iaload) := by decide +kernel
theorem k262_34 : lkc 34 (kcode 262) = some (.iastore) := by decide +kernel
theorem k262_35 : lkc 35 (kcode 262) = some (.iinc 1 1) := by decide +kernel
theorem k262_38 : lkc 38 (kcode 262) = some (.goto (-22)) := by decide +kernel
theorem k262_41 : lkc 41 (kcode 262) = some (.aload_n 0) := by decide +kernel
theorem k262_42 : lkc 42 (kcode 262) = some (.iconst 0) := by decide +kernel
theorem k262_43 : lkc 43 (kcode 262) = some (.putfield 292) := by decide +kernel
theorem k262_46 : lkc 46 (kcode 262) = some (.aload_n 0) := by decide +kernel
theorem k262_47 : lkc 47 (kcode 262) = some (.getfield 58) := by decide +kernel
theorem k262_50 : lkc 50 (kcode 262) = some (.bipush 26) := by decide +kernel
theorem k262_52 : lkc 52 (kcode 262) = some (.iaload) := by decide +kernel
theorem k262_53 : lkc 53 (kcode 262) = some (.ireturn) := by decide +kernel
/-! forward: a day, undo, image, back (the reference) -/
/-- the reference's scene as it stands -/
def mS9 (m : xM) (C W w k d0 lg : Nat) (h f : Nat → Nat) : Prop := m.1 314 27 = nI W ∧ W ≤ 4 ∧ m.1 326 24 = nI w ∧ w < 65536 ∧ m.1 326 25 = nI k ∧ k ≤ 999 ∧ m.1 326 26 = nI d0 ∧ d0 ≤ 1000 ∧ m.1 326 27 = nI lg ∧ lg ≤ 60 ∧ (∀ p, p < W → m.1 326 (16 + 2 * p) = nI (h p) ∧ h p < C) ∧ ∀ p, p < W → m.1 326 (17 + 2 * p) = nI (f p) ∧ f p ≤ 9
theorem mS9_f {m m2 : xM} {C W w k d0 lg : Nat} {h f : Nat → Nat} (hS : mS9 m C W w k d0 lg h f) (q : ∀ a i, (a = 314 ∧ i = 27) ∨ a = 326 → m2.1 a i = m.1 a i) : mS9 m2 C W w k d0 lg h f := by
  obtain ⟨h1, h2, h3, h4, h5, h6, h7, h8, h9, h10, h11, h12⟩ := hS
  exact ⟨by rw [q _ _ (by omega)]; exact h1, h2, by rw [q _ _ (by omega)]; exact h3, h4, by rw [q _ _ (by omega)]; exact h5, h6, by rw [q _ _ (by omega)]; exact h7, h8, by rw [q _ _ (by omega)]; exact h9, h10, fun p hp => by rw [q _ _ (by omega)]; exact h11 p hp, fun p hp => by rw [q _ _ (by omega)]; exact h12 p hp⟩
def gdO (W k d0 lg : Nat) (g : Nat → Bool) (f : Nat → Nat) (m m' : xM) : Prop := frD m m' ∧ (∀ p, p < W → m'.1 326 (17 + 2 * p) = nI (fth g f p)) ∧ m'.1 326 25 = nI (min 999 (k + gcn g W)) ∧ m'.1 326 26 = nI (d0 + 1) ∧ m'.1 326 27 = nI (min 60 (lg + 1))
theorem c_mday {m : xM} {C S W w k d0 lg h0 : Nat} {A B Y h f : Nat → Nat} (hI : gI tS tR m) (hj : jM m) (hT : mT m C S A B Y) (hX : mS9 m C W w k d0 lg h f) (hh : m.1 314 42 = nI h0) (hh4 : h0 ≤ 40) : fC 212 [.ref 314] m (fun rv m' => (¬ (0 < S ∧ d0 ≠ 999) ∧ rv = some (.int (-1)) ∧ m' = mI m 314 0 0) ∨ ((0 < S ∧ d0 ≠ 999) ∧ rv = some (.int (nI (gcn (fun p => anyG (chp A B S w C) (wyM C S A B Y w) 100000 (h p) C) W))) ∧ ∃ mk, rmO h0 (mI m 314 0 0) mk ∧ gdO W k d0 lg (fun p => anyG (chp A B S w C) (wyM C S A B Y w) 100000 (h p) C) f mk m')) := by
  refine fC_of (by decide) (fun d n P H => ?_)
  have c26 : (26 : Int32).toNatClampNeg = 26 := by decide
  replace H := f_aload_n H k212_0 rfl
  replace H := f_iconst H k212_1 (v := 0) (by decide)
  replace H := f_put_i H k212_2 (ci := 12) (f := 0) (by decide +kernel) (by decide)
  have hI1 : gI tS tR (mI m 314 0 0) := gI_m2 hI (by decide +kernel)
  have hj1 : jM (mI m 314 0 0) := jM_c (by decide) hj
  have hT1 : mT (mI m 314 0 0) C S A B Y := mT_f hT (fun i => ⟨⟨mI_ne (by omega), mI_ne (by omega)⟩, mI_ne (by omega)⟩)
  have hX1 := mS9_f hX (m2 := mI m 314 0 0) (fun a i q => mI_ne (by omega))
  have hh1 : (mI m 314 0 0).1 314 42 = nI h0 := by rw [mI_ne (by omega)]; exact hh
  clear hI hj hT hX hh
  generalize mI m 314 0 0 = m at *
  have hr : rS m := hI1.2
  have x7 := hX1.2.2.2.2.2.2.1
  have x8 := hX1.2.2.2.2.2.2.2.1
  have s12 := hT1.2.2.2.1
  have neg : ∀ n, ¬ (0 < S ∧ d0 ≠ 999) → xF 212 (xw d) P n 25 [(0, .ref 314)] [] m → ∃ rv m', P rv m' ∧ ((¬ (0 < S ∧ d0 ≠ 999) ∧ rv = some (.int (-1)) ∧ m' = m) ∨ ((0 < S ∧ d0 ≠ 999) ∧ rv = some (.int (nI (gcn (fun p => anyG (chp A B S w C) (wyM C S A B Y w) 100000 (h p) C) W))) ∧ ∃ mk, rmO h0 m mk ∧ gdO W k d0 lg (fun p => anyG (chp A B S w C) (wyM C S A B Y w) 100000 (h p) C) f mk m')) := by
    intro n hn H
    replace H := f_iconst H k212_25 (v := -1) (by decide)
    replace H := f_iret H k212_26
    exact ⟨_, _, H, Or.inl ⟨hn, rfl, rfl⟩⟩
  replace H := f_aload_n H k212_5 rfl
  replace H := f_gi H k212_6 (ci := 12) (f := 26) (by decide +kernel) (by decide)
  rw [hT1.2.1] at H
  have Hbr := f_if_eq H k212_9 (t := 25) (by decide)
  clear H
  rcases Hbr with ⟨c, H⟩ | ⟨c, H⟩
  · rw [show (0 : Int32) = nI 0 from rfl, nI_inj (by omega) (by omega)] at c
    exact neg _ (fun q => by omega) H
  · rw [show (0 : Int32) = nI 0 from rfl, nI_inj (by omega) (by omega)] at c
    replace H := f_aload_n H k212_12 rfl
    replace H := f_gr H k212_13 (ci := 12) (f := 32) (x := 326) (by decide +kernel) (by decide) (hr 314 32 326 rfl)
    replace H := f_bipush H k212_16 (v := 26) (by decide)
    have Hob := f_iald H k212_18 (c := 208) (by decide)
    clear H
    obtain ⟨hb18, H⟩ := Hob
    replace H := f_sipush H k212_19 (v := 999) (by decide)
    rw [c26, x7, show (999 : Int32) = nI 999 from rfl] at H
    have Hbr := f_icmp_ne H k212_22 (t := 27) (by decide)
    clear H
    rcases Hbr with ⟨c2, H⟩ | ⟨c2, H⟩
    · rw [nI_inj (by omega) (by omega)] at c2
      replace H := f_aload_n H k212_27 rfl
      obtain ⟨rv, m4, ⟨⟨rfl, hq⟩, hc⟩, h9_28⟩ := f_inv H k212_28 (by decide +kernel) (as := []) (b := 314) (r := []) (by rfl) (fC_two (c_remember hr hh1 hh4) (fC_vC rem_ok hI1 hj1 ⟨aR_a 314, trivial⟩ gF_nil))
      replace H := h9_28
      have hI4 := hc.1
      have hj4 : jM m4 := jM_st (c := (0, [], [], [], remc.2.2.2.2)) (by decide) m m4 hc.2.1 hj1
      clear hc
      have hr : rS m4 := hI4.2
      have hT4 : mT m4 C S A B Y := mT_f hT1 (fun i => ⟨⟨rmO_f hq (by omega) (by omega), rmO_f hq (by omega) (by omega)⟩, rmO_f hq (by omega) (by omega)⟩)
      obtain ⟨y1, y2, y3, y4, y5, y6, y7, y8, y9, y10, y11, y12⟩ := mS9_f hX1 (m2 := m4) (fun a i q => rmO_f hq (by omega) (by omega))
      replace H := f_aload_n H k212_31 rfl
      replace H := f_aload_n H k212_32 rfl
      replace H := f_gr H k212_33 (ci := 12) (f := 32) (x := 326) (by decide +kernel) (by decide) (hr 314 32 326 rfl)
      obtain ⟨rv, m5, ⟨rfl, g1, g2, g3, g4, g5⟩, h9_36⟩ := f_inv H k212_36 (by decide +kernel) (as := [.ref 326]) (b := 314) (r := []) (by rfl) (c_goDay hI4 hj4 hT4 y1 y2 y3 y4 y11 y12 y5 y6 y7 y8 y9 y10)
      replace H := h9_36
      replace H := f_iret H k212_39
      exact ⟨_, _, H, Or.inr ⟨⟨by omega, c2⟩, rfl, m4, hq, g1, g2, g3, g4, g5⟩⟩
    · rw [nI_inj (by omega) (by omega)] at c2
      exact neg _ (fun q => q.2 c2) H
/-- rows copied: the cell q from the cell s at o -/
def cpO (q s o : Nat) (m m' : xM) : Prop := m'.2 = m.2 ∧ (∀ a i, a ≠ q → m'.1 a i = m.1 a i) ∧ ∀ k, k < 208 → m'.1 q k = m.1 s (o + k)
theorem c_mundo {m : xM} {h : Nat} (hr : rS m) (hh : m.1 314 42 = nI h) (hh4 : h ≤ 40) : fC 220 [.ref 314] m (fun rv m' => (h = 0 ∧ rv = some (.int (-1)) ∧ m' = mI m 314 0 0) ∨ (0 < h ∧ rv = some (.int (nI (h - 1))) ∧ m'.1 314 42 = nI (h - 1) ∧ (∀ k, k < 208 → m'.1 326 k = m.1 331 (208 * (h - 1) + k)) ∧ ∀ a i, a ≠ 326 → ¬ (a = 314 ∧ (i = 0 ∨ i = 42)) → m'.1 a i = m.1 a i)) := by
  refine fC_of (by decide) (fun d n P H => ?_)
  have lp : ∀ n k m2, 0 < h → k ≤ 208 → rS m2 → m2.1 314 42 = nI (h - 1) → (∀ a i, a ≠ 326 → ¬ (a = 314 ∧ (i = 0 ∨ i = 42)) → m2.1 a i = m.1 a i) → (∀ j, j < k → m2.1 326 j = m.1 331 (208 * (h - 1) + j)) → xF 220 (xw d) P n 26 [(1, .int (nI k)), (0, .ref 314)] [] m2 → ∃ rv m', P rv m' ∧ ((h = 0 ∧ rv = some (.int (-1)) ∧ m' = mI m 314 0 0) ∨ (0 < h ∧ rv = some (.int (nI (h - 1))) ∧ m'.1 314 42 = nI (h - 1) ∧ (∀ k, k < 208 → m'.1 326 k = m.1 331 (208 * (h - 1) + k)) ∧ ∀ a i, a ≠ 326 → ¬ (a = 314 ∧ (i = 0 ∨ i = 42)) → m'.1 a i = m.1 a i)) := by
    intro n
    induction n with
    | zero => exact fun k m2 _ _ _ _ _ _ H => (xF_0 H).elim
    | succ n ih =>
      intro k m2 h0 hk hr e1 e2 e3 H
      replace H := f1_iload_n H k220_26 rfl
      replace H := f_sipush H k220_27 (v := 208) (by decide)
      rw [show (208 : Int32) = nI 208 from rfl] at H
      have Hbr := f_icmp_ge H k220_30 (t := 60) (by decide)
      clear H
      rcases Hbr with ⟨k0, H⟩ | ⟨k0, H⟩
      · rw [nxle (by omega) (by omega)] at k0
        have ek : k = 208 := by omega
        subst ek
        replace H := f_aload_n H k220_60 rfl
        replace H := f_gi H k220_61 (ci := 12) (f := 42) (by decide +kernel) (by decide)
        rw [e1] at H
        replace H := f_iret H k220_64
        exact ⟨_, _, H, Or.inr ⟨h0, rfl, e1, e3, e2⟩⟩
      · rw [nxle (by omega) (by omega)] at k0
        replace H := f_aload_n H k220_33 rfl
        replace H := f_gr H k220_34 (ci := 12) (f := 32) (x := 326) (by decide +kernel) (by decide) (hr 314 32 326 rfl)
        replace H := f_iload_n H k220_37 rfl
        replace H := f_aload_n H k220_38 rfl
        replace H := f_gr H k220_39 (ci := 12) (f := 41) (x := 331) (by decide +kernel) (by decide) (hr 314 41 331 rfl)
        replace H := f_sipush H k220_42 (v := 208) (by decide)
        replace H := f_aload_n H k220_45 rfl
        replace H := f_gi H k220_46 (ci := 12) (f := 42) (by decide +kernel) (by decide)
        replace H := f_imul H k220_49
        replace H := f_iload_n H k220_50 rfl
        replace H := f_iadd H k220_51
        have Hob := f_iald H k220_52 (c := 8320) (by decide)
        clear H
        obtain ⟨hb52, H⟩ := Hob
        have Hob := f_iast H k220_53 (c := 208) (by decide)
        clear H
        obtain ⟨hb53, H⟩ := Hob
        replace H := f_iinc H k220_54 rfl (l2 := [(1, .int (nI k + 1)), (0, .ref 314)]) rfl
        replace H := f_goto H k220_57 (t := 26) (by decide)
        rw [e1, show (208 : Int32) = nI 208 from rfl, nI_mul, r_ad, nI_clamp (by omega), nI_clamp (by omega), nI_s, e2 331 _ (by omega) (by omega)] at H
        refine ih (k + 1) (mI m2 326 k _) h0 (by omega) hr (by rw [mI_ne (by omega)]; exact e1) (fun a i q q2 => by rw [mI_ne (by omega)]; exact e2 a i q q2) (fun j hj => ?_) H
        by_cases c : j = k
        · subst c
          rw [mI_at]
        · rw [mI_ne (by omega)]; exact e3 j (by omega)
  replace H := f_aload_n H k220_0 rfl
  replace H := f_iconst H k220_1 (v := 0) (by decide)
  replace H := f_put_i H k220_2 (ci := 12) (f := 0) (by decide +kernel) (by decide)
  replace H := f_aload_n H k220_5 rfl
  replace H := f_gi H k220_6 (ci := 12) (f := 42) (by decide +kernel) (by decide)
  rw [mI_ne (by omega), hh] at H
  have Hbr := f_if_ne H k220_9 (t := 14) (by decide)
  clear H
  rcases Hbr with ⟨c, H⟩ | ⟨c, H⟩
  · rw [show (0 : Int32) = nI 0 from rfl, nI_inj (by omega) (by omega)] at c
    replace H := f_aload_n H k220_14 rfl
    replace H := f_dup H k220_15
    replace H := f_gi H k220_16 (ci := 12) (f := 42) (by decide +kernel) (by decide)
    replace H := f_iconst H k220_19 (v := 1) (by decide)
    replace H := f_isub H k220_20
    replace H := f_put_i H k220_21 (ci := 12) (f := 42) (by decide +kernel) (by decide)
    rw [mI_ne (by omega), hh, show nI h - 1 = nI (h - 1) from nI_sub (b := 1) (by omega) (by omega)] at H
    replace H := f_iconst H k220_24 (v := 0) (by decide)
    replace H := f_istore_n H k220_25 (l2 := [(1, .int 0), (0, .ref 314)]) rfl
    exact lp n 0 (mI (mI m 314 0 0) 314 42 (nI (h - 1))) (by omega) (by omega) hr mI_at (fun a i _ q => by rw [mI_ne (by omega), mI_ne (by omega)]) (fun j hj => absurd hj (Nat.not_lt_zero _)) H
  · rw [show (0 : Int32) = nI 0 from rfl, nI_inj (by omega) (by omega)] at c
    replace H := f_iconst H k220_12 (v := -1) (by decide)
    replace H := f_iret H k220_13
    exact ⟨_, _, H, Or.inl ⟨c, rfl, rfl⟩⟩
theorem c_mimage {m : xM} {S d0 : Nat} (hr : rS m) (hS : m.1 314 26 = nI S) (hS12 : S ≤ 12) (hd : m.1 326 26 = nI d0) : fC 261 [.ref 314] m (fun rv m' => (S = 0 ∧ rv = some (.int (-1)) ∧ m' = mI m 314 0 0) ∨ (0 < S ∧ rv = some (.int (nI d0)) ∧ m'.1 314 53 = 1 ∧ (∀ k, k < 208 → m'.1 333 k = m.1 326 k) ∧ ∀ a i, a ≠ 333 → ¬ (a = 314 ∧ (i = 0 ∨ i = 53)) → m'.1 a i = m.1 a i)) := by
  refine fC_of (by decide) (fun d n P H => ?_)
  have c26 : (26 : Int32).toNatClampNeg = 26 := by decide
  have lp : ∀ n k m2, 0 < S → k ≤ 208 → rS m2 → (∀ a i, a ≠ 333 → ¬ (a = 314 ∧ (i = 0 ∨ i = 53)) → m2.1 a i = m.1 a i) → (∀ j, j < k → m2.1 333 j = m.1 326 j) → xF 261 (xw d) P n 16 [(1, .int (nI k)), (0, .ref 314)] [] m2 → ∃ rv m', P rv m' ∧ ((S = 0 ∧ rv = some (.int (-1)) ∧ m' = mI m 314 0 0) ∨ (0 < S ∧ rv = some (.int (nI d0)) ∧ m'.1 314 53 = 1 ∧ (∀ k, k < 208 → m'.1 333 k = m.1 326 k) ∧ ∀ a i, a ≠ 333 → ¬ (a = 314 ∧ (i = 0 ∨ i = 53)) → m'.1 a i = m.1 a i)) := by
    intro n
    induction n with
    | zero => exact fun k m2 _ _ _ _ _ H => (xF_0 H).elim
    | succ n ih =>
      intro k m2 h0 hk hr e2 e3 H
      replace H := f1_iload_n H k261_16 rfl
      replace H := f_sipush H k261_17 (v := 208) (by decide)
      rw [show (208 : Int32) = nI 208 from rfl] at H
      have Hbr := f_icmp_ge H k261_20 (t := 41) (by decide)
      clear H
      rcases Hbr with ⟨k0, H⟩ | ⟨k0, H⟩
      · rw [nxle (by omega) (by omega)] at k0
        have ek : k = 208 := by omega
        subst ek
        replace H := f_aload_n H k261_41 rfl
        replace H := f_iconst H k261_42 (v := 1) (by decide)
        replace H := f_put_b H k261_43 (ci := 12) (f := 53) (by decide +kernel) (by decide)
        replace H := f_aload_n H k261_46 rfl
        replace H := f_gr H k261_47 (ci := 12) (f := 32) (x := 326) (by decide +kernel) (by decide) (hr 314 32 326 rfl)
        replace H := f_bipush H k261_50 (v := 26) (by decide)
        have Hob := f_iald H k261_52 (c := 208) (by decide)
        clear H
        obtain ⟨hb52, H⟩ := Hob
        rw [c26, mI_ne (by omega), e2 326 26 (by omega) (by omega), hd] at H
        replace H := f_iret H k261_53
        exact ⟨_, _, H, Or.inr ⟨h0, rfl, mI_at, fun j hj => by rw [mI_ne (by omega)]; exact e3 j hj, fun a i q q2 => by rw [mI_ne (by omega)]; exact e2 a i q q2⟩⟩
      · rw [nxle (by omega) (by omega)] at k0
        replace H := f_aload_n H k261_23 rfl
        replace H := f_gr H k261_24 (ci := 12) (f := 52) (x := 333) (by decide +kernel) (by decide) (hr 314 52 333 rfl)
        replace H := f_iload_n H k261_27 rfl
        replace H := f_aload_n H k261_28 rfl
        replace H := f_gr H k261_29 (ci := 12) (f := 32) (x := 326) (by decide +kernel) (by decide) (hr 314 32 326 rfl)
        replace H := f_iload_n H k261_32 rfl
        have Hob := f_iald H k261_33 (c := 208) (by decide)
        clear H
        obtain ⟨hb33, H⟩ := Hob
        have Hob := f_iast H k261_34 (c := 208) (by decide)
        clear H
        obtain ⟨hb34, H⟩ := Hob
        replace H := f_iinc H k261_35 rfl (l2 := [(1, .int (nI k + 1)), (0, .ref 314)]) rfl
        replace H := f_goto H k261_38 (t := 16) (by decide)
        rw [nI_clamp (by omega), nI_s, e2 326 _ (by omega) (by omega)] at H
        refine ih (k + 1) (mI m2 333 k _) h0 (by omega) hr (fun a i q q2 => by rw [mI_ne (by omega)]; exact e2 a i q q2) (fun j hj => ?_) H
        by_cases c : j = k
        · subst c
          rw [mI_at]
        · rw [mI_ne (by omega)]; exact e3 j (by omega)
  replace H := f_aload_n H k261_0 rfl
  replace H := f_iconst H k261_1 (v := 0) (by decide)
  replace H := f_put_i H k261_2 (ci := 12) (f := 0) (by decide +kernel) (by decide)
  replace H := f_aload_n H k261_5 rfl
  replace H := f_gi H k261_6 (ci := 12) (f := 26) (by decide +kernel) (by decide)
  rw [mI_ne (by omega), hS] at H
  have Hbr := f_if_ne H k261_9 (t := 14) (by decide)
  clear H
  rcases Hbr with ⟨c, H⟩ | ⟨c, H⟩
  · rw [show (0 : Int32) = nI 0 from rfl, nI_inj (by omega) (by omega)] at c
    replace H := f_iconst H k261_14 (v := 0) (by decide)
    replace H := f_istore_n H k261_15 (l2 := [(1, .int 0), (0, .ref 314)]) rfl
    exact lp n 0 (mI m 314 0 0) (by omega) (by omega) hr (fun a i _ q => by rw [mI_ne (by omega)]) (fun j hj => absurd hj (Nat.not_lt_zero _)) H
  · rw [show (0 : Int32) = nI 0 from rfl, nI_inj (by omega) (by omega)] at c
    replace H := f_iconst H k261_12 (v := -1) (by decide)
    replace H := f_iret H k261_13
    exact ⟨_, _, H, Or.inl ⟨c, rfl, rfl⟩⟩
theorem c_mback {m : xM} {b d0 : Nat} (hr : rS m) (hb : m.1 314 53 = nI b) (hb1 : b ≤ 1) (hd : b = 1 → m.1 333 26 = nI d0) : fC 262 [.ref 314] m (fun rv m' => (b = 0 ∧ rv = some (.int (-1)) ∧ m' = mI m 314 0 0) ∨ (b = 1 ∧ rv = some (.int (nI d0)) ∧ m'.1 314 42 = 0 ∧ (∀ k, k < 208 → m'.1 326 k = m.1 333 k) ∧ ∀ a i, a ≠ 326 → ¬ (a = 314 ∧ (i = 0 ∨ i = 42)) → m'.1 a i = m.1 a i)) := by
  refine fC_of (by decide) (fun d n P H => ?_)
  have c26 : (26 : Int32).toNatClampNeg = 26 := by decide
  have lp : ∀ n k m2, b = 1 → k ≤ 208 → rS m2 → (∀ a i, a ≠ 326 → ¬ (a = 314 ∧ (i = 0 ∨ i = 42)) → m2.1 a i = m.1 a i) → (∀ j, j < k → m2.1 326 j = m.1 333 j) → xF 262 (xw d) P n 16 [(1, .int (nI k)), (0, .ref 314)] [] m2 → ∃ rv m', P rv m' ∧ ((b = 0 ∧ rv = some (.int (-1)) ∧ m' = mI m 314 0 0) ∨ (b = 1 ∧ rv = some (.int (nI d0)) ∧ m'.1 314 42 = 0 ∧ (∀ k, k < 208 → m'.1 326 k = m.1 333 k) ∧ ∀ a i, a ≠ 326 → ¬ (a = 314 ∧ (i = 0 ∨ i = 42)) → m'.1 a i = m.1 a i)) := by
    intro n
    induction n with
    | zero => exact fun k m2 _ _ _ _ _ H => (xF_0 H).elim
    | succ n ih =>
      intro k m2 h0 hk hr e2 e3 H
      replace H := f1_iload_n H k262_16 rfl
      replace H := f_sipush H k262_17 (v := 208) (by decide)
      rw [show (208 : Int32) = nI 208 from rfl] at H
      have Hbr := f_icmp_ge H k262_20 (t := 41) (by decide)
      clear H
      rcases Hbr with ⟨k0, H⟩ | ⟨k0, H⟩
      · rw [nxle (by omega) (by omega)] at k0
        have ek : k = 208 := by omega
        subst ek
        replace H := f_aload_n H k262_41 rfl
        replace H := f_iconst H k262_42 (v := 0) (by decide)
        replace H := f_put_i H k262_43 (ci := 12) (f := 42) (by decide +kernel) (by decide)
        replace H := f_aload_n H k262_46 rfl
        replace H := f_gr H k262_47 (ci := 12) (f := 32) (x := 326) (by decide +kernel) (by decide) (hr 314 32 326 rfl)
        replace H := f_bipush H k262_50 (v := 26) (by decide)
        have Hob := f_iald H k262_52 (c := 208) (by decide)
        clear H
        obtain ⟨hb52, H⟩ := Hob
        rw [c26, mI_ne (by omega), e3 26 (by omega), hd h0] at H
        replace H := f_iret H k262_53
        exact ⟨_, _, H, Or.inr ⟨h0, rfl, mI_at, fun j hj => by rw [mI_ne (by omega)]; exact e3 j hj, fun a i q q2 => by rw [mI_ne (by omega)]; exact e2 a i q q2⟩⟩
      · rw [nxle (by omega) (by omega)] at k0
        replace H := f_aload_n H k262_23 rfl
        replace H := f_gr H k262_24 (ci := 12) (f := 32) (x := 326) (by decide +kernel) (by decide) (hr 314 32 326 rfl)
        replace H := f_iload_n H k262_27 rfl
        replace H := f_aload_n H k262_28 rfl
        replace H := f_gr H k262_29 (ci := 12) (f := 52) (x := 333) (by decide +kernel) (by decide) (hr 314 52 333 rfl)
        replace H := f_iload_n H k262_32 rfl
        have Hob := f_iald H k262_33 (c := 208) (by decide)
        clear H
        obtain ⟨hb33, H⟩ := Hob
        have Hob := f_iast H k262_34 (c := 208) (by decide)
        clear H
        obtain ⟨hb34, H⟩ := Hob
        replace H := f_iinc H k262_35 rfl (l2 := [(1, .int (nI k + 1)), (0, .ref 314)]) rfl
        replace H := f_goto H k262_38 (t := 16) (by decide)
        rw [nI_clamp (by omega), nI_s, e2 333 _ (by omega) (by omega)] at H
        refine ih (k + 1) (mI m2 326 k _) h0 (by omega) hr (fun a i q q2 => by rw [mI_ne (by omega)]; exact e2 a i q q2) (fun j hj => ?_) H
        by_cases c : j = k
        · subst c
          rw [mI_at]
        · rw [mI_ne (by omega)]; exact e3 j (by omega)
  replace H := f_aload_n H k262_0 rfl
  replace H := f_iconst H k262_1 (v := 0) (by decide)
  replace H := f_put_i H k262_2 (ci := 12) (f := 0) (by decide +kernel) (by decide)
  replace H := f_aload_n H k262_5 rfl
  replace H := f_gi H k262_6 (ci := 12) (f := 53) (by decide +kernel) (by decide)
  rw [mI_ne (by omega), hb] at H
  have Hbr := f_if_ne H k262_9 (t := 14) (by decide)
  clear H
  rcases Hbr with ⟨c, H⟩ | ⟨c, H⟩
  · rw [show (0 : Int32) = nI 0 from rfl, nI_inj (by omega) (by omega)] at c
    replace H := f_iconst H k262_14 (v := 0) (by decide)
    replace H := f_istore_n H k262_15 (l2 := [(1, .int 0), (0, .ref 314)]) rfl
    exact lp n 0 (mI m 314 0 0) (by omega) (by omega) hr (fun a i _ q => by rw [mI_ne (by omega)]) (fun j hj => absurd hj (Nat.not_lt_zero _)) H
  · rw [show (0 : Int32) = nI 0 from rfl, nI_inj (by omega) (by omega)] at c
    replace H := f_iconst H k262_12 (v := -1) (by decide)
    replace H := f_iret H k262_13
    exact ⟨_, _, H, Or.inl ⟨c, rfl, rfl⟩⟩
