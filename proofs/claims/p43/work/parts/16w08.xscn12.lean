theorem k113_0 : lkc 0 (kcode 113) = some (.aload_n 0) := by decide +kernel
theorem k113_1 : lkc 1 (kcode 113) = some (.invokevirtual 239) := by decide +kernel
theorem k113_4 : lkc 4 (kcode 113) = some (.ifCond .eq 16) := by decide +kernel
theorem k113_7 : lkc 7 (kcode 113) = some (.aload_n 0) := by decide +kernel
theorem k113_8 : lkc 8 (kcode 113) = some (.getfield 75) := by decide +kernel
theorem k113_11 : lkc 11 (kcode 113) = some (.getfield 223) := by decide +kernel
theorem k113_14 : lkc 14 (kcode 113) = some (.sipush 999) := by decide +kernel
theorem k113_17 : lkc 17 (kcode 113) = some (.if_icmp .lt 5) := by decide +kernel
theorem k113_20 : lkc 20 (kcode 113) = some (.iconst (-1)) := by decide +kernel
theorem k113_21 : lkc 21 (kcode 113) = some (.ireturn) := by decide +kernel
theorem k113_22 : lkc 22 (kcode 113) = some (.aload_n 0) := by decide +kernel
theorem k113_23 : lkc 23 (kcode 113) = some (.getfield 85) := by decide +kernel
theorem k113_26 : lkc 26 (kcode 113) = some (.aload_n 0) := by decide +kernel
theorem k113_27 : lkc 27 (kcode 113) = some (.getfield 75) := by decide +kernel
theorem k113_30 : lkc 30 (kcode 113) = some (.invokevirtual 243) := by decide +kernel
theorem k113_33 : lkc 33 (kcode 113) = some (.aload_n 0) := by decide +kernel
theorem k113_34 : lkc 34 (kcode 113) = some (.invokevirtual 247) := by decide +kernel
theorem k113_37 : lkc 37 (kcode 113) = some (.aload_n 0) := by decide +kernel
theorem k113_38 : lkc 38 (kcode 113) = some (.getfield 61) := by decide +kernel
theorem k113_41 : lkc 41 (kcode 113) = some (.getfield 250) := by decide +kernel
theorem k113_44 : lkc 44 (kcode 113) = some (.ireturn) := by decide +kernel
theorem k114_0 : lkc 0 (kcode 114) = some (.aload_n 0) := by decide +kernel
theorem k114_1 : lkc 1 (kcode 114) = some (.getfield 61) := by decide +kernel
theorem k114_4 : lkc 4 (kcode 114) = some (.aload_n 0) := by decide +kernel
theorem k114_5 : lkc 5 (kcode 114) = some (.getfield 75) := by decide +kernel
theorem k114_8 : lkc 8 (kcode 114) = some (.invokevirtual 253) := by decide +kernel
theorem k114_11 : lkc 11 (kcode 114) = some (.aload_n 0) := by decide +kernel
theorem k114_12 : lkc 12 (kcode 114) = some (.getfield 61) := by decide +kernel
theorem k114_15 : lkc 15 (kcode 114) = some (.aload_n 0) := by decide +kernel
theorem k114_16 : lkc 16 (kcode 114) = some (.getfield 75) := by decide +kernel
theorem k114_19 : lkc 19 (kcode 114) = some (.invokevirtual 256) := by decide +kernel
theorem k114_22 : lkc 22 (kcode 114) = some (.aload_n 0) := by decide +kernel
theorem k114_23 : lkc 23 (kcode 114) = some (.getfield 92) := by decide +kernel
theorem k114_26 : lkc 26 (kcode 114) = some (.aload_n 0) := by decide +kernel
theorem k114_27 : lkc 27 (kcode 114) = some (.getfield 75) := by decide +kernel
theorem k114_30 : lkc 30 (kcode 114) = some (.getfield 223) := by decide +kernel
theorem k114_33 : lkc 33 (kcode 114) = some (.iconst 1) := by decide +kernel
theorem k114_34 : lkc 34 (kcode 114) = some (.isub) := by decide +kernel
theorem k114_35 : lkc 35 (kcode 114) = some (.aload_n 0) := by decide +kernel
theorem k114_36 : lkc 36 (kcode 114) = some (.getfield 61) := by decide +kernel
theorem k114_39 : lkc 39 (kcode 114) = some (.getfield 259) := by decide +kernel
theorem k114_42 : lkc 42 (kcode 114) = some (.aload_n 0) := by decide +kernel
theorem k114_43 : lkc 43 (kcode 114) = some (.getfield 61) := by decide +kernel
theorem k114_46 : lkc 46 (kcode 114) = some (.getfield 262) := by decide +kernel
theorem k114_49 : lkc 49 (kcode 114) = some (.aload_n 0) := by decide +kernel
theorem k114_50 : lkc 50 (kcode 114) = some (.getfield 75) := by decide +kernel
theorem k114_53 : lkc 53 (kcode 114) = some (.getfield 226) := by decide +kernel
theorem k114_56 : lkc 56 (kcode 114) = some (.invokevirtual 265) := by decide +kernel
theorem k114_59 : lkc 59 (kcode 114) = some (.return_) := by decide +kernel
theorem k123_0 : lkc 0 (kcode 123) = some (.aload_n 0) := by decide +kernel
theorem k123_1 : lkc 1 (kcode 123) = some (.getfield 85) := by decide +kernel
theorem k123_4 : lkc 4 (kcode 123) = some (.aload_n 0) := by decide +kernel
theorem k123_5 : lkc 5 (kcode 123) = some (.getfield 75) := by decide +kernel
theorem k123_8 : lkc 8 (kcode 123) = some (.invokevirtual 281) := by decide +kernel
theorem k123_11 : lkc 11 (kcode 123) = some (.ifCond .ne 5) := by decide +kernel
theorem k123_14 : lkc 14 (kcode 123) = some (.iconst (-1)) := by decide +kernel
theorem k123_15 : lkc 15 (kcode 123) = some (.ireturn) := by decide +kernel
theorem k123_16 : lkc 16 (kcode 123) = some (.aload_n 0) := by decide +kernel
theorem k123_17 : lkc 17 (kcode 123) = some (.getfield 85) := by decide +kernel
theorem k123_20 : lkc 20 (kcode 123) = some (.getfield 232) := by decide +kernel
theorem k123_23 : lkc 23 (kcode 123) = some (.ireturn) := by decide +kernel
theorem k126_0 : lkc 0 (kcode 126) = some (.aload_n 0) := by decide +kernel
theorem k126_1 : lkc 1 (kcode 126) = some (.invokevirtual 239) := by decide +kernel
theorem k126_4 : lkc 4 (kcode 126) = some (.ifCond .ne 5) := by decide +kernel
theorem k126_7 : lkc 7 (kcode 126) = some (.iconst (-1)) := by decide +kernel
theorem k126_8 : lkc 8 (kcode 126) = some (.ireturn) := by decide +kernel
theorem k126_9 : lkc 9 (kcode 126) = some (.aload_n 0) := by decide +kernel
theorem k126_10 : lkc 10 (kcode 126) = some (.getfield 96) := by decide +kernel
theorem k126_13 : lkc 13 (kcode 126) = some (.aload_n 0) := by decide +kernel
theorem k126_14 : lkc 14 (kcode 126) = some (.getfield 75) := by decide +kernel
theorem k126_17 : lkc 17 (kcode 126) = some (.invokevirtual 294) := by decide +kernel
theorem k126_20 : lkc 20 (kcode 126) = some (.aload_n 0) := by decide +kernel
theorem k126_21 : lkc 21 (kcode 126) = some (.getfield 99) := by decide +kernel
theorem k126_24 : lkc 24 (kcode 126) = some (.aload_n 0) := by decide +kernel
theorem k126_25 : lkc 25 (kcode 126) = some (.getfield 92) := by decide +kernel
theorem k126_28 : lkc 28 (kcode 126) = some (.invokevirtual 296) := by decide +kernel
theorem k126_31 : lkc 31 (kcode 126) = some (.aload_n 0) := by decide +kernel
theorem k126_32 : lkc 32 (kcode 126) = some (.iconst 1) := by decide +kernel
theorem k126_33 : lkc 33 (kcode 126) = some (.putfield 152) := by decide +kernel
theorem k126_36 : lkc 36 (kcode 126) = some (.aload_n 0) := by decide +kernel
theorem k126_37 : lkc 37 (kcode 126) = some (.getfield 75) := by decide +kernel
theorem k126_40 : lkc 40 (kcode 126) = some (.getfield 223) := by decide +kernel
theorem k126_43 : lkc 43 (kcode 126) = some (.ireturn) := by decide +kernel
theorem k127_0 : lkc 0 (kcode 127) = some (.aload_n 0) := by decide +kernel
theorem k127_1 : lkc 1 (kcode 127) = some (.getfield 152) := by decide +kernel
theorem k127_4 : lkc 4 (kcode 127) = some (.ifCond .ne 5) := by decide +kernel
theorem k127_7 : lkc 7 (kcode 127) = some (.iconst (-1)) := by decide +kernel
theorem k127_8 : lkc 8 (kcode 127) = some (.ireturn) := by decide +kernel
theorem k127_9 : lkc 9 (kcode 127) = some (.aload_n 0) := by decide +kernel
theorem k127_10 : lkc 10 (kcode 127) = some (.getfield 75) := by decide +kernel
theorem k127_13 : lkc 13 (kcode 127) = some (.aload_n 0) := by decide +kernel
theorem k127_14 : lkc 14 (kcode 127) = some (.getfield 96) := by decide +kernel
theorem k127_17 : lkc 17 (kcode 127) = some (.invokevirtual 294) := by decide +kernel
theorem k127_20 : lkc 20 (kcode 127) = some (.aload_n 0) := by decide +kernel
theorem k127_21 : lkc 21 (kcode 127) = some (.getfield 92) := by decide +kernel
theorem k127_24 : lkc 24 (kcode 127) = some (.aload_n 0) := by decide +kernel
theorem k127_25 : lkc 25 (kcode 127) = some (.getfield 99) := by decide +kernel
theorem k127_28 : lkc 28 (kcode 127) = some (.invokevirtual 296) := by decide +kernel
theorem k127_31 : lkc 31 (kcode 127) = some (.aload_n 0) := by decide +kernel
theorem k127_32 : lkc 32 (kcode 127) = some (.getfield 85) := by decide +kernel
theorem k127_35 : lkc 35 (kcode 127) = some (.invokevirtual 149) := by decide +kernel
theorem k127_38 : lkc 38 (kcode 127) = some (.aload_n 0) := by decide +kernel
theorem k127_39 : lkc 39 (kcode 127) = some (.getfield 75) := by decide +kernel
theorem k127_42 : lkc 42 (kcode 127) = some (.getfield 223) := by decide +kernel
theorem k127_45 : lkc 45 (kcode 127) = some (.ireturn) := by decide +kernel
/-! forward: a day lived, undo, image, back (the class) -/
def frL (m m2 : xM) : Prop := ∀ a i, (a < 47 ∨ (a = 47 ∧ (i = 4 ∨ i = 5)) ∨ (48 ≤ a ∧ a ≤ 53) ∨ (55 ≤ a ∧ a ≤ 62) ∨ (84 ≤ a ∧ a ≤ 88) ∨ (a = 89 ∧ i = 0) ∨ a = 91 ∨ a = 92 ∨ (94 ≤ a ∧ a ≤ 301) ∨ 305 ≤ a) → m2.1 a i = m.1 a i
def lvO (W k d0 : Nat) (g : Nat → Bool) (f : Nat → Nat) (m m' : xM) : Prop := frL m m' ∧ (∀ p, p < W → m'.1 93 p = nI (fth g f p)) ∧ (∀ e, e < 8 → ∃ k, m'.1 90 e = nI k ∧ k ≤ 999) ∧ m'.1 89 1 = nI (min 999 (k + gcn g W)) ∧ m'.1 89 2 = nI (d0 + 1) ∧ m'.1 83 6 = nI (gcn g W)
/-- the class's scene as it stands -/
def xS (m : xM) (C W w k d0 : Nat) (h f l : Nat → Nat) : Prop := m.1 3 2 = nI W ∧ W ≤ 4 ∧ m.1 89 0 = nI w ∧ w < 65536 ∧ m.1 89 1 = nI k ∧ k ≤ 999 ∧ m.1 89 2 = nI d0 ∧ d0 ≤ 1000 ∧ (∀ p, p < W → m.1 92 p = nI (h p) ∧ h p < C) ∧ (∀ p, p < W → m.1 93 p = nI (f p) ∧ f p ≤ 9) ∧ (∀ e, e < 8 → ∃ k, m.1 90 e = nI k ∧ k ≤ 999) ∧ ∀ e, e < 8 → m.1 91 e = nI (l e) ∧ l e ≤ 3
theorem xS_f {m m2 : xM} {C W w k d0 : Nat} {h f l : Nat → Nat} (hS : xS m C W w k d0 h f l) (q : ∀ a i, (a = 3 ∧ i = 2) ∨ (89 ≤ a ∧ a ≤ 93) → m2.1 a i = m.1 a i) : xS m2 C W w k d0 h f l := by
  obtain ⟨h1, h2, h3, h4, h5, h6, h7, h8, h9, h10, h11, h12⟩ := hS
  exact ⟨by rw [q 3 2 (by omega)]; exact h1, h2, by rw [q 89 0 (by omega)]; exact h3, h4, by rw [q 89 1 (by omega)]; exact h5, h6, by rw [q 89 2 (by omega)]; exact h7, h8, fun p hp => by rw [q 92 p (by omega)]; exact h9 p hp, fun p hp => by rw [q 93 p (by omega)]; exact h10 p hp, fun e he => by rw [q 90 e (by omega)]; exact h11 e he, fun e he => by rw [q 91 e (by omega)]; exact h12 e he⟩
theorem c_liveDay {m : xM} {C S W w k d0 : Nat} {A B Y h f l : Nat → Nat} (hI : gI tS tR m) (hT : xT m C S A B Y) (hX : xS m C W w k d0 h f l) : fC 114 [.ref 0] m (fun rv m' => rv = none ∧ lvO W k d0 (fun p => anyG (chp A B S w C) (wyX C S A B Y w) 1000000 (h p) C) f m m') := by
  refine fC_of (by decide) (fun d n P H => ?_)
  have hr : rS m := hI.2
  obtain ⟨x1, x2, x3, x4, x5, x6, x7, x8, x9, x10, x11, x12⟩ := id hX
  have hS : ∀ s, s < S → A s ≠ B s ∧ 1 ≤ Y s ∧ Y s ≤ 40 := fun s hs => ⟨(hT.2.2.2.2.1 s hs).2.2.2.2.2.1, (hT.2.2.2.2.1 s hs).2.2.2.2.2.2.1, (hT.2.2.2.2.1 s hs).2.2.2.2.2.2.2⟩
  have hle : mle 1000000 (wyX C S A B Y w) := fwO_le (wsX_le hS) C
  replace H := f_aload_n H k114_0 rfl
  replace H := f_gr H k114_1 (ci := 11) (f := 7) (x := 83) (by decide +kernel) (by decide) (hr 0 7 83 rfl)
  replace H := f_aload_n H k114_4 rfl
  replace H := f_gr H k114_5 (ci := 11) (f := 9) (x := 89) (by decide +kernel) (by decide) (hr 0 9 89 rfl)
  obtain ⟨rv, m1, ⟨⟨rfl, f1, c3, hY⟩, hI1, -⟩, h9_8⟩ := f_inv H k114_8 (by decide +kernel) (as := [.ref 89]) (b := 83) (r := []) (by rfl) (fC_two (c_lookAt hr hT x3 x4) (fC_vC q171 hI jTok ⟨aR_a 83, aR_a 89, trivial⟩ gF_nil))
  replace H := h9_8
  have hr : rS m1 := hI1.2
  have K1 : ∀ a i, a < 63 ∨ 84 ≤ a → m1.1 a i = m.1 a i := fun a i q => f1 a i (by omega) (by omega) (by omega)
  have hX1 := xS_f hX (fun a i q => K1 a i (by omega))
  obtain ⟨y1, y2, y3, y4, y5, y6, y7, y8, y9, y10, y11, y12⟩ := id hX1
  replace H := f_aload_n H k114_11 rfl
  replace H := f_gr H k114_12 (ci := 11) (f := 7) (x := 83) (by decide +kernel) (by decide) (hr 0 7 83 rfl)
  replace H := f_aload_n H k114_15 rfl
  replace H := f_gr H k114_16 (ci := 11) (f := 9) (x := 89) (by decide +kernel) (by decide) (hr 0 9 89 rfl)
  obtain ⟨rv, m2, ⟨⟨rfl, f2, p1, p2, p3, p4, p5, p6⟩, hI2, -⟩, h9_19⟩ := f_inv H k114_19 (by decide +kernel) (as := [.ref 89]) (b := 83) (r := []) (by rfl) (fC_two (c_passDay hI1 hT.2.2.1 (by rw [K1 3 0 (by omega)]; exact hT.1) y1 y2 c3 hY hle y9 y10 y11 (fun e he => ⟨l e, y12 e he⟩) y5 y6 y7 y8) (fC_vC q193 hI1 jTok ⟨aR_a 83, aR_a 89, trivial⟩ gF_nil))
  replace H := h9_19
  have hr : rS m2 := hI2.2
  replace H := f_aload_n H k114_22 rfl
  replace H := f_gr H k114_23 (ci := 11) (f := 12) (x := 301) (by decide +kernel) (by decide) (hr 0 12 301 rfl)
  replace H := f_aload_n H k114_26 rfl
  replace H := f_gr H k114_27 (ci := 11) (f := 9) (x := 89) (by decide +kernel) (by decide) (hr 0 9 89 rfl)
  replace H := f_gi H k114_30 (ci := 6) (f := 2) (by decide +kernel) (by decide)
  replace H := f_iconst H k114_33 (v := 1) (by decide)
  replace H := f_isub H k114_34
  replace H := f_aload_n H k114_35 rfl
  replace H := f_gr H k114_36 (ci := 11) (f := 7) (x := 83) (by decide +kernel) (by decide) (hr 0 7 83 rfl)
  replace H := f_gi H k114_39 (ci := 1) (f := 4) (by decide +kernel) (by decide)
  replace H := f_aload_n H k114_42 rfl
  replace H := f_gr H k114_43 (ci := 11) (f := 7) (x := 83) (by decide +kernel) (by decide) (hr 0 7 83 rfl)
  replace H := f_gi H k114_46 (ci := 1) (f := 5) (by decide +kernel) (by decide)
  replace H := f_aload_n H k114_49 rfl
  replace H := f_gr H k114_50 (ci := 11) (f := 9) (x := 89) (by decide +kernel) (by decide) (hr 0 9 89 rfl)
  replace H := f_gi H k114_53 (ci := 6) (f := 1) (by decide +kernel) (by decide)
  obtain ⟨rv, m3, hc, h9_56⟩ := f_inv H k114_56 (by decide +kernel) (as := [.int _, .int _, .int _, .int _]) (b := 301) (r := []) (by rfl) (fC_vC q195 hI2 jTok ⟨aR_a 301, aI_a _, aI_a _, aI_a _, aI_a _, trivial⟩ gF_nil)
  replace H := h9_56
  obtain rfl := rv_none hc (by decide)
  have K3 : ∀ a i, a < 302 ∨ 305 ≤ a → m3.1 a i = m2.1 a i := fun a i q => hc.2.1 a i (wm_f (fun r hm z => by
    have h9 : ∀ q ∈ q195c.2.2.2.2, 302 ≤ q.1 ∧ q.1 ≤ 304 := by decide
    have := h9 r hm
    omega))
  clear hc
  replace H := f_ret H k114_59
  refine ⟨_, _, H, rfl, fun a i q => ?_, fun p hp => by rw [K3 _ _ (by omega)]; exact p1 p hp, fun e he => by rw [K3 _ _ (by omega)]; exact p3 e he, by rw [K3 _ _ (by omega)]; exact p4, by rw [K3 _ _ (by omega)]; exact p5, by rw [K3 _ _ (by omega)]; exact p6⟩
  rw [K3 a i (by omega), f2 a i (by omega) (by omega) (by omega) (by omega) (by omega) (by omega), K1 a i (by omega)]
theorem c_day {m : xM} {C S W w k d0 x h0 : Nat} {A B Y h f l : Nat → Nat} (hI : gI tS tR m) (hT : xT m C S A B Y) (hX : xS m C W w k d0 h f l) (hx : m.1 99 1 = nI x) (hx4 : x < 40) (hh : m.1 99 2 = nI h0) (hh4 : h0 ≤ 40) : fC 113 [.ref 0] m (fun rv m' => (¬ (0 < C ∧ d0 < 999) ∧ rv = some (.int (-1)) ∧ m' = m) ∨ ((0 < C ∧ d0 < 999) ∧ rv = some (.int (nI (gcn (fun p => anyG (chp A B S w C) (wyX C S A B Y w) 1000000 (h p) C) W))) ∧ ∃ mk, kpO x h0 m mk ∧ lvO W k d0 (fun p => anyG (chp A B S w C) (wyX C S A B Y w) 1000000 (h p) C) f mk m')) := by
  refine fC_of (by decide) (fun d n P H => ?_)
  have hr : rS m := hI.2
  have x7 : m.1 89 2 = nI d0 := hX.2.2.2.2.2.2.1
  have x8 : d0 ≤ 1000 := hX.2.2.2.2.2.2.2.1
  have neg : ∀ n, ¬ (0 < C ∧ d0 < 999) → xF 113 (xw d) P n 20 [(0, .ref 0)] [] m → ∃ rv m', P rv m' ∧ ((¬ (0 < C ∧ d0 < 999) ∧ rv = some (.int (-1)) ∧ m' = m) ∨ ((0 < C ∧ d0 < 999) ∧ rv = some (.int (nI (gcn (fun p => anyG (chp A B S w C) (wyX C S A B Y w) 1000000 (h p) C) W))) ∧ ∃ mk, kpO x h0 m mk ∧ lvO W k d0 (fun p => anyG (chp A B S w C) (wyX C S A B Y w) 1000000 (h p) C) f mk m')) := by
    intro n hn H
    replace H := f_iconst H k113_20 (v := -1) (by decide)
    replace H := f_iret H k113_21
    exact ⟨_, _, H, Or.inl ⟨hn, rfl, rfl⟩⟩
  have hC9 : C ≤ 1000 := by have := hT.2.2.1; omega
  replace H := f_aload_n H k113_0 rfl
  obtain ⟨rv, m3, ⟨ho, e3⟩, h9_1⟩ := f_inv H k113_1 (by decide +kernel) (as := []) (b := 0) (r := []) (by rfl) (c_hasTown hr hT.1 hC9)
  replace H := h9_1
  rw [← e3] at H
  clear e3
  rcases ho with ⟨c0, rfl⟩ | ⟨c0, rfl⟩
  · replace H := f_if_eq_f H k113_4 (by decide)
    replace H := f_aload_n H k113_7 rfl
    replace H := f_gr H k113_8 (ci := 11) (f := 9) (x := 89) (by decide +kernel) (by decide) (hr 0 9 89 rfl)
    replace H := f_gi H k113_11 (ci := 6) (f := 2) (by decide +kernel) (by decide)
    replace H := f_sipush H k113_14 (v := 999) (by decide)
    rw [x7, show (999 : Int32) = nI 999 from rfl] at H
    have Hbr := f_icmp_lt H k113_17 (t := 22) (by decide)
    clear H
    rcases Hbr with ⟨c, H⟩ | ⟨c, H⟩
    · rw [nxlt (by omega) (by omega)] at c
      replace H := f_aload_n H k113_22 rfl
      replace H := f_gr H k113_23 (ci := 11) (f := 11) (x := 99) (by decide +kernel) (by decide) (hr 0 11 99 rfl)
      replace H := f_aload_n H k113_26 rfl
      replace H := f_gr H k113_27 (ci := 11) (f := 9) (x := 89) (by decide +kernel) (by decide) (hr 0 9 89 rfl)
      obtain ⟨rv, m4, ⟨⟨rfl, hq⟩, hI4, -⟩, h9_30⟩ := f_inv H k113_30 (by decide +kernel) (as := [.ref 89]) (b := 99) (r := []) (by rfl) (fC_two (c_keep hr hx hx4 hh hh4) (fC_vC q166 hI jTok ⟨aR_a 99, aR_a 89, trivial⟩ gF_nil))
      replace H := h9_30
      have hkp : kpO x h0 m m4 := hq
      have hr : rS m4 := hI4.2
      have hT4 : xT m4 C S A B Y := xT_f hT (fun a i h1 h2 => kpO_f hkp hx4 (by omega))
      have hX4 := xS_f hX (fun a i q => kpO_f hkp hx4 (a := a) (i := i) (by omega))
      replace H := f_aload_n H k113_33 rfl
      obtain ⟨rv, m5, ⟨⟨rfl, hl⟩, hI5, -⟩, h9_34⟩ := f_inv H k113_34 (by decide +kernel) (as := []) (b := 0) (r := []) (by rfl) (fC_two (c_liveDay hI4 hT4 hX4) (fC_vC q196 hI4 jTok ⟨aR_a 0, trivial⟩ gF_nil))
      replace H := h9_34
      have hr : rS m5 := hI5.2
      replace H := f_aload_n H k113_37 rfl
      replace H := f_gr H k113_38 (ci := 11) (f := 7) (x := 83) (by decide +kernel) (by decide) (hr 0 7 83 rfl)
      replace H := f_gi H k113_41 (ci := 1) (f := 6) (by decide +kernel) (by decide)
      rw [hl.2.2.2.2.2] at H
      replace H := f_iret H k113_44
      exact ⟨_, _, H, Or.inr ⟨⟨c0, c⟩, rfl, m4, hkp, hl⟩⟩
    · rw [nxlt (by omega) (by omega)] at c
      exact neg _ (fun q => c q.2) H
  · replace H := f_if_eq_t H k113_4 rfl (t := 20) (by decide)
    exact neg _ (fun q => by omega) H
theorem c_undo {m : xM} {x h : Nat} (hr : rS m) (hx : m.1 99 1 = nI x) (hx4 : x < 40) (hh : m.1 99 2 = nI h) (hh4 : h ≤ 40) : fC 123 [.ref 0] m (fun rv m' => (h = 0 ∧ rv = some (.int (-1)) ∧ m' = m) ∨ (0 < h ∧ rv = some (.int (nI (h - 1))) ∧ ∃ m1, scB 89 (101 + 5 * pv1 x) m m1 ∧ m'.1 99 1 = nI (pv1 x) ∧ m'.1 99 2 = nI (h - 1) ∧ ∀ a i, ¬ (a = 99 ∧ (i = 1 ∨ i = 2)) → m'.1 a i = m1.1 a i)) := by
  refine fC_of (by decide) (fun d n P H => ?_)
  replace H := f_aload_n H k123_0 rfl
  replace H := f_gr H k123_1 (ci := 11) (f := 11) (x := 99) (by decide +kernel) (by decide) (hr 0 11 99 rfl)
  replace H := f_aload_n H k123_4 rfl
  replace H := f_gr H k123_5 (ci := 11) (f := 9) (x := 89) (by decide +kernel) (by decide) (hr 0 9 89 rfl)
  obtain ⟨rv, m2, ho, h9_8⟩ := f_inv H k123_8 (by decide +kernel) (as := [.ref 89]) (b := 99) (r := []) (by rfl) (c_takeBack hr hx hx4 hh hh4)
  replace H := h9_8
  rcases ho with ⟨h0, rfl, e2⟩ | ⟨h0, rfl, m1, g1, g2, g3, g4, g5⟩
  · replace H := f_if_ne_f H k123_11 rfl
    replace H := f_iconst H k123_14 (v := -1) (by decide)
    replace H := f_iret H k123_15
    exact ⟨_, _, H, Or.inl ⟨h0, rfl, e2⟩⟩
  · replace H := f_if_ne_t H k123_11 (by decide) (t := 16) (by decide)
    have hr2 : rS m2 := fun a i b q => by rw [g4]; exact hr a i b q
    have hr := hr2
    replace H := f_aload_n H k123_16 rfl
    replace H := f_gr H k123_17 (ci := 11) (f := 11) (x := 99) (by decide +kernel) (by decide) (hr 0 11 99 rfl)
    replace H := f_gi H k123_20 (ci := 0) (f := 2) (by decide +kernel) (by decide)
    rw [g3] at H
    replace H := f_iret H k123_23
    exact ⟨_, _, H, Or.inr ⟨h0, rfl, m1, g1, g2, g3, g5⟩⟩
theorem c_image {m : xM} {C d0 : Nat} (hI : gI tS tR m) (hC : m.1 3 0 = nI C) (hC9 : C ≤ 1000) (hd : m.1 89 2 = nI d0) : fC 126 [.ref 0] m (fun rv m' => (C = 0 ∧ rv = some (.int (-1)) ∧ m' = m) ∨ (0 < C ∧ rv = some (.int (nI d0)) ∧ ∃ m1, scB 305 89 m m1 ∧ m'.1 0 15 = 1 ∧ ∀ a i, ¬ (a = 0 ∧ i = 15) → a < 310 → m'.1 a i = m1.1 a i)) := by
  refine fC_of (by decide) (fun d n P H => ?_)
  have hr : rS m := hI.2
  replace H := f_aload_n H k126_0 rfl
  obtain ⟨rv, m3, ⟨ho, e3⟩, h9_1⟩ := f_inv H k126_1 (by decide +kernel) (as := []) (b := 0) (r := []) (by rfl) (c_hasTown hr hC hC9)
  replace H := h9_1
  rw [← e3] at H
  clear e3
  rcases ho with ⟨c0, rfl⟩ | ⟨c0, rfl⟩
  · replace H := f_if_ne_t H k126_4 (by decide) (t := 9) (by decide)
    replace H := f_aload_n H k126_9 rfl
    replace H := f_gr H k126_10 (ci := 11) (f := 13) (x := 305) (by decide +kernel) (by decide) (hr 0 13 305 rfl)
    replace H := f_aload_n H k126_13 rfl
    replace H := f_gr H k126_14 (ci := 11) (f := 9) (x := 89) (by decide +kernel) (by decide) (hr 0 9 89 rfl)
    obtain ⟨rv, m1, ⟨⟨rfl, g1⟩, hI1, -⟩, h9_17⟩ := f_inv H k126_17 (by decide +kernel) (as := [.ref 89]) (b := 305) (r := []) (by rfl) (fC_two (c_scBecome hr sc_305 sc_89 (by omega)) (fC_vC q216 hI jTok ⟨aR_a 305, aR_a 89, trivial⟩ gF_nil))
    replace H := h9_17
    have hr : rS m1 := hI1.2
    replace H := f_aload_n H k126_20 rfl
    replace H := f_gr H k126_21 (ci := 11) (f := 14) (x := 310) (by decide +kernel) (by decide) (hr 0 14 310 rfl)
    replace H := f_aload_n H k126_24 rfl
    replace H := f_gr H k126_25 (ci := 11) (f := 12) (x := 301) (by decide +kernel) (by decide) (hr 0 12 301 rfl)
    obtain ⟨rv, m2, hc, h9_28⟩ := f_inv H k126_28 (by decide +kernel) (as := [.ref 301]) (b := 310) (r := []) (by rfl) (fC_vC q217 hI1 jTok ⟨aR_a 310, aR_a 301, trivial⟩ gF_nil)
    replace H := h9_28
    obtain rfl := rv_none hc (by decide)
    have K2 : ∀ a i, a < 311 → m2.1 a i = m1.1 a i := fun a i q => hc.2.1 a i (wm_f (fun r hm z => by
      have h9 : ∀ q ∈ q217c.2.2.2.2, 311 ≤ q.1 := by decide
      have := h9 r hm
      omega))
    have hr : rS m2 := hc.1.2
    clear hc
    have d2 : m2.1 89 2 = nI d0 := by rw [K2 _ _ (by omega), g1.2.1 89 2 (by omega)]; exact hd
    replace H := f_aload_n H k126_31 rfl
    replace H := f_iconst H k126_32 (v := 1) (by decide)
    replace H := f_put_b H k126_33 (ci := 11) (f := 15) (by decide +kernel) (by decide)
    replace H := f_aload_n H k126_36 rfl
    replace H := f_gr H k126_37 (ci := 11) (f := 9) (x := 89) (by decide +kernel) (by decide) (hr 0 9 89 rfl)
    replace H := f_gi H k126_40 (ci := 6) (f := 2) (by decide +kernel) (by decide)
    rw [mI_ne (by omega), d2] at H
    replace H := f_iret H k126_43
    exact ⟨_, _, H, Or.inr ⟨c0, rfl, m1, g1, mI_at, fun a i q ha => by rw [mI_ne q, K2 a i (by omega)]⟩⟩
  · replace H := f_if_ne_f H k126_4 rfl
    replace H := f_iconst H k126_7 (v := -1) (by decide)
    replace H := f_iret H k126_8
    exact ⟨_, _, H, Or.inl ⟨c0, rfl, rfl⟩⟩
theorem c_back {m : xM} {b d0 : Nat} (hI : gI tS tR m) (hb : m.1 0 15 = nI b) (hb1 : b ≤ 1) (hd : b = 1 → m.1 305 2 = nI d0) : fC 127 [.ref 0] m (fun rv m' => (b = 0 ∧ rv = some (.int (-1)) ∧ m' = m) ∨ (b = 1 ∧ rv = some (.int (nI d0)) ∧ ∃ m1, scB 89 305 m m1 ∧ m'.1 99 2 = 0 ∧ ∀ a i, ¬ (a = 99 ∧ i = 2) → a < 302 ∨ 305 ≤ a → m'.1 a i = m1.1 a i)) := by
  refine fC_of (by decide) (fun d n P H => ?_)
  have hr : rS m := hI.2
  replace H := f_aload_n H k127_0 rfl
  replace H := f_gi H k127_1 (ci := 11) (f := 15) (by decide +kernel) (by decide)
  rw [hb] at H
  have Hbr := f_if_ne H k127_4 (t := 9) (by decide)
  clear H
  rcases Hbr with ⟨c, H⟩ | ⟨c, H⟩
  · have hb2 : b = 1 := by
      have : b ≠ 0 := fun q => c (by rw [q]; rfl)
      omega
    replace H := f_aload_n H k127_9 rfl
    replace H := f_gr H k127_10 (ci := 11) (f := 9) (x := 89) (by decide +kernel) (by decide) (hr 0 9 89 rfl)
    replace H := f_aload_n H k127_13 rfl
    replace H := f_gr H k127_14 (ci := 11) (f := 13) (x := 305) (by decide +kernel) (by decide) (hr 0 13 305 rfl)
    obtain ⟨rv, m1, ⟨⟨rfl, g1⟩, hI1, -⟩, h9_17⟩ := f_inv H k127_17 (by decide +kernel) (as := [.ref 305]) (b := 89) (r := []) (by rfl) (fC_two (c_scBecome hr sc_89 sc_305 (by omega)) (fC_vC q219 hI jTok ⟨aR_a 89, aR_a 305, trivial⟩ gF_nil))
    replace H := h9_17
    have hr : rS m1 := hI1.2
    replace H := f_aload_n H k127_20 rfl
    replace H := f_gr H k127_21 (ci := 11) (f := 12) (x := 301) (by decide +kernel) (by decide) (hr 0 12 301 rfl)
    replace H := f_aload_n H k127_24 rfl
    replace H := f_gr H k127_25 (ci := 11) (f := 14) (x := 310) (by decide +kernel) (by decide) (hr 0 14 310 rfl)
    obtain ⟨rv, m2, hc, h9_28⟩ := f_inv H k127_28 (by decide +kernel) (as := [.ref 310]) (b := 301) (r := []) (by rfl) (fC_vC q220 hI1 jTok ⟨aR_a 301, aR_a 310, trivial⟩ gF_nil)
    replace H := h9_28
    obtain rfl := rv_none hc (by decide)
    have K2 : ∀ a i, a < 302 ∨ 305 ≤ a → m2.1 a i = m1.1 a i := fun a i q => hc.2.1 a i (wm_f (fun r hm z => by
      have h9 : ∀ q ∈ q220c.2.2.2.2, 302 ≤ q.1 ∧ q.1 ≤ 304 := by decide
      have := h9 r hm
      omega))
    have hr : rS m2 := hc.1.2
    clear hc
    have d2 : m2.1 89 2 = nI d0 := by rw [K2 _ _ (by omega), g1.2.2.1 2 (by omega)]; exact hd hb2
    replace H := f_aload_n H k127_31 rfl
    replace H := f_gr H k127_32 (ci := 11) (f := 11) (x := 99) (by decide +kernel) (by decide) (hr 0 11 99 rfl)
    obtain ⟨rv, m3, ⟨rfl, rfl⟩, h9_35⟩ := f_inv H k127_35 (by decide +kernel) (as := []) (b := 99) (r := []) (by rfl) (c_forget)
    replace H := h9_35
    replace H := f_aload_n H k127_38 rfl
    replace H := f_gr H k127_39 (ci := 11) (f := 9) (x := 89) (by decide +kernel) (by decide) (hr 0 9 89 rfl)
    replace H := f_gi H k127_42 (ci := 6) (f := 2) (by decide +kernel) (by decide)
    rw [mI_ne (by omega), d2] at H
    replace H := f_iret H k127_45
    exact ⟨_, _, H, Or.inr ⟨hb2, rfl, m1, g1, mI_at, fun a i q ha => by rw [mI_ne q, K2 a i ha]⟩⟩
  · rw [show (0 : Int32) = nI 0 from rfl, nI_inj (by omega) (by omega)] at c
    replace H := f_iconst H k127_7 (v := -1) (by decide)
    replace H := f_iret H k127_8
    exact ⟨_, _, H, Or.inl ⟨c, rfl, rfl⟩⟩
