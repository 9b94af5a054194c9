theorem k50_0 : lkc 0 (kcode 50) = some (.aload_n 0) := by decide +kernel
theorem k50_1 : lkc 1 (kcode 50) = some (.getfield 17) := by decide +kernel
theorem k50_4 : lkc 4 (kcode 50) = some (.iload_n 1) := by decide +kernel
theorem k50_5 : lkc 5 (kcode 50) = some (.aaload) := by decide +kernel
theorem k50_6 : lkc 6 (kcode 50) = some (.iconst 2) := by decide +kernel
theorem k50_7 : lkc 7 (kcode 50) = some (.iaload) := by decide +kernel
theorem k50_8 : lkc 8 (kcode 50) = some (.ireturn) := by decide +kernel
theorem k82_0 : lkc 0 (kcode 82) = some (.aload_n 0) := by decide +kernel
theorem k82_1 : lkc 1 (kcode 82) = some (.getfield 11) := by decide +kernel
theorem k82_4 : lkc 4 (kcode 82) = some (.iload_n 1) := by decide +kernel
theorem k82_5 : lkc 5 (kcode 82) = some (.aaload) := by decide +kernel
theorem k82_6 : lkc 6 (kcode 82) = some (.iload_n 2) := by decide +kernel
theorem k82_7 : lkc 7 (kcode 82) = some (.iaload) := by decide +kernel
theorem k82_8 : lkc 8 (kcode 82) = some (.iconst (-1)) := by decide +kernel
theorem k82_9 : lkc 9 (kcode 82) = some (.if_icmp .eq 15) := by decide +kernel
theorem k82_12 : lkc 12 (kcode 82) = some (.iload_n 3) := by decide +kernel
theorem k82_13 : lkc 13 (kcode 82) = some (.aload_n 0) := by decide +kernel
theorem k82_14 : lkc 14 (kcode 82) = some (.getfield 11) := by decide +kernel
theorem k82_17 : lkc 17 (kcode 82) = some (.iload_n 1) := by decide +kernel
theorem k82_18 : lkc 18 (kcode 82) = some (.aaload) := by decide +kernel
theorem k82_19 : lkc 19 (kcode 82) = some (.iload_n 2) := by decide +kernel
theorem k82_20 : lkc 20 (kcode 82) = some (.iaload) := by decide +kernel
theorem k82_21 : lkc 21 (kcode 82) = some (.if_icmp .ge 49) := by decide +kernel
theorem k82_24 : lkc 24 (kcode 82) = some (.aload_n 0) := by decide +kernel
theorem k82_25 : lkc 25 (kcode 82) = some (.getfield 11) := by decide +kernel
theorem k82_28 : lkc 28 (kcode 82) = some (.iload_n 1) := by decide +kernel
theorem k82_29 : lkc 29 (kcode 82) = some (.aaload) := by decide +kernel
theorem k82_30 : lkc 30 (kcode 82) = some (.iload_n 2) := by decide +kernel
theorem k82_31 : lkc 31 (kcode 82) = some (.iload_n 3) := by decide +kernel
theorem k82_32 : lkc 32 (kcode 82) = some (.iastore) := by decide +kernel
theorem k82_33 : lkc 33 (kcode 82) = some (.aload_n 0) := by decide +kernel
theorem k82_34 : lkc 34 (kcode 82) = some (.getfield 11) := by decide +kernel
theorem k82_37 : lkc 37 (kcode 82) = some (.iload_n 2) := by decide +kernel
theorem k82_38 : lkc 38 (kcode 82) = some (.aaload) := by decide +kernel
theorem k82_39 : lkc 39 (kcode 82) = some (.iload_n 1) := by decide +kernel
theorem k82_40 : lkc 40 (kcode 82) = some (.iload_n 3) := by decide +kernel
theorem k82_41 : lkc 41 (kcode 82) = some (.iastore) := by decide +kernel
theorem k82_42 : lkc 42 (kcode 82) = some (.aload_n 0) := by decide +kernel
theorem k82_43 : lkc 43 (kcode 82) = some (.getfield 16) := by decide +kernel
theorem k82_46 : lkc 46 (kcode 82) = some (.iload_n 1) := by decide +kernel
theorem k82_47 : lkc 47 (kcode 82) = some (.aaload) := by decide +kernel
theorem k82_48 : lkc 48 (kcode 82) = some (.iload_n 2) := by decide +kernel
theorem k82_49 : lkc 49 (kcode 82) = some (.iload_n 3) := by decide +kernel
theorem k82_50 : lkc 50 (kcode 82) = some (.bipush 16) := by decide +kernel
theorem k82_52 : lkc 52 (kcode 82) = some (.imul) := by decide +kernel
theorem k82_53 : lkc 53 (kcode 82) = some (.iconst 1) := by decide +kernel
theorem k82_54 : lkc 54 (kcode 82) = some (.iadd) := by decide +kernel
theorem k82_55 : lkc 55 (kcode 82) = some (.iastore) := by decide +kernel
theorem k82_56 : lkc 56 (kcode 82) = some (.aload_n 0) := by decide +kernel
theorem k82_57 : lkc 57 (kcode 82) = some (.getfield 16) := by decide +kernel
theorem k82_60 : lkc 60 (kcode 82) = some (.iload_n 2) := by decide +kernel
theorem k82_61 : lkc 61 (kcode 82) = some (.aaload) := by decide +kernel
theorem k82_62 : lkc 62 (kcode 82) = some (.iload_n 1) := by decide +kernel
theorem k82_63 : lkc 63 (kcode 82) = some (.iload_n 3) := by decide +kernel
theorem k82_64 : lkc 64 (kcode 82) = some (.bipush 16) := by decide +kernel
theorem k82_66 : lkc 66 (kcode 82) = some (.imul) := by decide +kernel
theorem k82_67 : lkc 67 (kcode 82) = some (.iconst 1) := by decide +kernel
theorem k82_68 : lkc 68 (kcode 82) = some (.iadd) := by decide +kernel
theorem k82_69 : lkc 69 (kcode 82) = some (.iastore) := by decide +kernel
theorem k82_70 : lkc 70 (kcode 82) = some (.return_) := by decide +kernel
/-! forward: the class's tables of steps and costs -/
theorem rx_5 : ∀ s : Fin 12, lay (6 + s.val) = (0, 0, 4) ∧ tR 5 s.val = some (6 + s.val) := by decide +kernel
theorem rx_64 : ∀ s : Fin 8, lay (65 + s.val) = (0, 0, 8) ∧ tR 64 s.val = some (65 + s.val) := by decide +kernel
theorem rx_73 : ∀ s : Fin 8, lay (74 + s.val) = (0, 0, 8) ∧ tR 73 s.val = some (74 + s.val) := by decide +kernel
theorem cn_endA {m : xM} {C S s : Nat} {A B Y : Nat → Nat} (hr : rS m) (hT : xT m C S A B Y) (hs : s < S) : fC 48 [.ref 3, .int (nI s)] m (fun rv m' => rv = some (.int (nI (A s))) ∧ m = m') := by
  refine fC_of (by decide) (fun d n P H => ?_)
  obtain ⟨t1, t2, t3, t4, t5, t6⟩ := id hT
  have e0 := t5 s hs
  obtain ⟨Ry, Rt⟩ := rx_5 ⟨s, by omega⟩
  replace Ry : lay (6 + s) = (0, 0, 4) := Ry
  replace Rt : tR 5 s = some (6 + s) := Rt
  generalize hR : 6 + s = R at *
  replace H := f_aload_n H k48_0 rfl
  replace H := f_gr H k48_1 (ci := 5) (f := 5) (x := 5) (by decide +kernel) (by decide) (hr 3 5 5 rfl)
  replace H := f_iload_n H k48_4 rfl
  have Hob := f_aald H k48_5 (x := 6) (c := 12) (v := .ref R) (by decide) ((by rw [nI_clamp (by omega), hr 5 s R Rt]; rfl))
  clear H
  obtain ⟨hb5, H⟩ := Hob
  replace H := f_iconst H k48_6 (v := 0) (by decide)
  have Hob := f_iald H k48_7 (c := 4) Ry
  clear H
  obtain ⟨hb7, H⟩ := Hob
  rw [show (0 : Int32).toNatClampNeg = 0 by decide] at H
  rw [e0.1] at H
  replace H := f_iret H k48_8
  exact ⟨_, _, H, rfl, rfl⟩
theorem cn_endB {m : xM} {C S s : Nat} {A B Y : Nat → Nat} (hr : rS m) (hT : xT m C S A B Y) (hs : s < S) : fC 49 [.ref 3, .int (nI s)] m (fun rv m' => rv = some (.int (nI (B s))) ∧ m = m') := by
  refine fC_of (by decide) (fun d n P H => ?_)
  obtain ⟨t1, t2, t3, t4, t5, t6⟩ := id hT
  have e1 := t5 s hs
  obtain ⟨Ry, Rt⟩ := rx_5 ⟨s, by omega⟩
  replace Ry : lay (6 + s) = (0, 0, 4) := Ry
  replace Rt : tR 5 s = some (6 + s) := Rt
  generalize hR : 6 + s = R at *
  replace H := f_aload_n H k49_0 rfl
  replace H := f_gr H k49_1 (ci := 5) (f := 5) (x := 5) (by decide +kernel) (by decide) (hr 3 5 5 rfl)
  replace H := f_iload_n H k49_4 rfl
  have Hob := f_aald H k49_5 (x := 6) (c := 12) (v := .ref R) (by decide) ((by rw [nI_clamp (by omega), hr 5 s R Rt]; rfl))
  clear H
  obtain ⟨hb5, H⟩ := Hob
  replace H := f_iconst H k49_6 (v := 1) (by decide)
  have Hob := f_iald H k49_7 (c := 4) Ry
  clear H
  obtain ⟨hb7, H⟩ := Hob
  rw [show (1 : Int32).toNatClampNeg = 1 by decide] at H
  rw [e1.2.1] at H
  replace H := f_iret H k49_8
  exact ⟨_, _, H, rfl, rfl⟩
theorem cn_yardsOf {m : xM} {C S s : Nat} {A B Y : Nat → Nat} (hr : rS m) (hT : xT m C S A B Y) (hs : s < S) : fC 50 [.ref 3, .int (nI s)] m (fun rv m' => rv = some (.int (nI (Y s))) ∧ m = m') := by
  refine fC_of (by decide) (fun d n P H => ?_)
  obtain ⟨t1, t2, t3, t4, t5, t6⟩ := id hT
  have e2 := t5 s hs
  obtain ⟨Ry, Rt⟩ := rx_5 ⟨s, by omega⟩
  replace Ry : lay (6 + s) = (0, 0, 4) := Ry
  replace Rt : tR 5 s = some (6 + s) := Rt
  generalize hR : 6 + s = R at *
  replace H := f_aload_n H k50_0 rfl
  replace H := f_gr H k50_1 (ci := 5) (f := 5) (x := 5) (by decide +kernel) (by decide) (hr 3 5 5 rfl)
  replace H := f_iload_n H k50_4 rfl
  have Hob := f_aald H k50_5 (x := 6) (c := 12) (v := .ref R) (by decide) ((by rw [nI_clamp (by omega), hr 5 s R Rt]; rfl))
  clear H
  obtain ⟨hb5, H⟩ := Hob
  replace H := f_iconst H k50_6 (v := 2) (by decide)
  have Hob := f_iald H k50_7 (c := 4) Ry
  clear H
  obtain ⟨hb7, H⟩ := Hob
  rw [show (2 : Int32).toNatClampNeg = 2 by decide] at H
  rw [e2.2.2.1] at H
  replace H := f_iret H k50_8
  exact ⟨_, _, H, rfl, rfl⟩
def stp (t : Nat) : Int32 := if t = 0 then -1 else nI t
theorem stp_0 : stp 0 = -1 := rfl
theorem stp_n {t : Nat} (h : ¬ t = 0) : stp t = nI t := if_neg h
theorem stp_m1 {t : Nat} (h : t < 240) : stp t = -1 ↔ t = 0 := by
  unfold stp
  by_cases c : t = 0
  · rw [if_pos c]; simp [c]
  · rw [if_neg c]
    exact ⟨fun q => absurd q (nI_n1 (N := 240) (by omega) (by decide)), fun q => absurd q c⟩
def mX (m : xM) (C : Nat) (T c : Mt) : Prop := m.1 63 3 = nI C ∧ ∀ a b, a < C → b < C → m.1 (65 + a) b = stp (T a b) ∧ m.1 (74 + a) b = nI (c a b)
theorem mX_c {m : xM} {C : Nat} {T c : Mt} {a b v : Nat} (hC : C ≤ 8) (ha : a < C) (h : mX m C T c) : mX (mI m (74 + a) b (nI v)) C T (mst c a b v) := by
  refine ⟨by rw [mI_ne (by omega)]; exact h.1, fun i j hi hj => ⟨by rw [mI_ne (by omega)]; exact (h.2 i j hi hj).1, ?_⟩⟩
  by_cases e : i = a ∧ j = b
  · obtain ⟨rfl, rfl⟩ := e
    rw [mI_at, mst_at]
  · rw [mst_ne e, mI_ne (by omega)]
    exact (h.2 i j hi hj).2
theorem mX_t {m : xM} {C : Nat} {T c : Mt} {a b v : Nat} (hC : C ≤ 8) (ha : a < C) (hv : ¬ v = 0) (h : mX m C T c) : mX (mI m (65 + a) b (nI v)) C (mst T a b v) c := by
  refine ⟨by rw [mI_ne (by omega)]; exact h.1, fun i j hi hj => ⟨?_, by rw [mI_ne (by omega)]; exact (h.2 i j hi hj).2⟩⟩
  by_cases e : i = a ∧ j = b
  · obtain ⟨rfl, rfl⟩ := e
    rw [mI_at, mst_at, stp_n hv]
  · rw [mst_ne e, mI_ne (by omega)]
    exact (h.2 i j hi hj).1
def frX (m m2 : xM) : Prop := m2.2 = m.2 ∧ ∀ a i, ¬ (65 ≤ a ∧ a ≤ 81) → ¬ (a = 63 ∧ i = 3) → m2.1 a i = m.1 a i
theorem frX_s {m m2 : xM} {a i : Nat} {v : Int32} (ha : 65 ≤ a ∧ a ≤ 81) (h : frX m m2) : frX m (mI m2 a i v) := ⟨h.1, fun b j hb hc => by rw [mI_ne (by omega)]; exact h.2 b j hb hc⟩
theorem frX_t {m m1 m2 : xM} (h : frX m m1) (g : frX m1 m2) : frX m m2 := ⟨g.1.trans h.1, fun b j hb hc => (g.2 b j hb hc).trans (h.2 b j hb hc)⟩
theorem frX_r {m m2 : xM} (h : frX m m2) (hr : rS m) : rS m2 := fun a i b e => by rw [h.1]; exact hr a i b e
theorem xT_f {m m2 : xM} {C S : Nat} {A B Y : Nat → Nat} (hT : xT m C S A B Y) (h : ∀ a i, 3 ≤ a → a ≤ 23 → m2.1 a i = m.1 a i) : xT m2 C S A B Y := by
  obtain ⟨t1, t2, t3, t4, t5, t6⟩ := hT
  exact ⟨by rw [h 3 _ (by omega) (by omega)]; exact t1, by rw [h 3 _ (by omega) (by omega)]; exact t2, t3, t4, fun s hs => by rw [h (6 + s) _ (by omega) (by omega), h (6 + s) _ (by omega) (by omega), h (6 + s) _ (by omega) (by omega)]; exact t5 s hs, fun c hc => by rw [h 23 _ (by omega) (by omega)]; exact t6 c hc⟩
theorem xT_X {m m2 : xM} {C S : Nat} {A B Y : Nat → Nat} (hT : xT m C S A B Y) (h : frX m m2) : xT m2 C S A B Y := xT_f hT (fun a i h1 h2 => h.2 a i (by omega) (by omega))
theorem c_noteStreet {m : xM} {C a b y : Nat} {T c : Mt} (hr : rS m) (hC : C ≤ 8) (ha : a < C) (hb : b < C) (hy : 1 ≤ y ∧ y ≤ 40) (hT : T a b ≤ 40) (hX : mX m C T c) : fC 82 [.ref 63, .int (nI a), .int (nI b), .int (nI y)] m (fun rv m' => rv = none ∧ frX m m' ∧ (((T a b = 0 ∨ y < T a b) ∧ mX m' C (mst (mst T a b y) b a y) (mst (mst c a b (16 * y + 1)) b a (16 * y + 1))) ∨ (¬ (T a b = 0 ∨ y < T a b) ∧ mX m' C T c))) := by
  refine fC_of (by decide) (fun d n P H => ?_)
  have e1 : nI y * 16 + 1 = nI (16 * y + 1) := by rw [show (16 : Int32) = nI 16 from rfl, nI_mul, nI_s, Nat.mul_comm]
  have hab := hX.2 a b ha hb
  have wr : ∀ n, (T a b = 0 ∨ y < T a b) → xF 82 (xw d) P n 24 [(0, .ref 63), (1, .int (nI a)), (2, .int (nI b)), (3, .int (nI y))] [] m → ∃ rv m', P rv m' ∧ rv = none ∧ frX m m' ∧ (((T a b = 0 ∨ y < T a b) ∧ mX m' C (mst (mst T a b y) b a y) (mst (mst c a b (16 * y + 1)) b a (16 * y + 1))) ∨ (¬ (T a b = 0 ∨ y < T a b) ∧ mX m' C T c)) := by
    intro n h H
    obtain ⟨Ry, Rt⟩ := rx_64 ⟨a, by omega⟩
    replace Ry : lay (65 + a) = (0, 0, 8) := Ry
    replace Rt : tR 64 a = some (65 + a) := Rt
    obtain ⟨Qy, Qt⟩ := rx_64 ⟨b, by omega⟩
    replace Qy : lay (65 + b) = (0, 0, 8) := Qy
    replace Qt : tR 64 b = some (65 + b) := Qt
    obtain ⟨Uy, Ut⟩ := rx_73 ⟨a, by omega⟩
    replace Uy : lay (74 + a) = (0, 0, 8) := Uy
    replace Ut : tR 73 a = some (74 + a) := Ut
    obtain ⟨Vy, Vt⟩ := rx_73 ⟨b, by omega⟩
    replace Vy : lay (74 + b) = (0, 0, 8) := Vy
    replace Vt : tR 73 b = some (74 + b) := Vt
    have H2 : ∃ f1 f2 f3 f4 : Nat → Nat, True := ⟨id, id, id, id, trivial⟩
    clear H2
    obtain ⟨R, hR⟩ : ∃ R, R = 65 + a := ⟨_, rfl⟩
    obtain ⟨Q, hQ⟩ : ∃ R, R = 65 + b := ⟨_, rfl⟩
    obtain ⟨U, hU⟩ : ∃ R, R = 74 + a := ⟨_, rfl⟩
    obtain ⟨V, hV⟩ : ∃ R, R = 74 + b := ⟨_, rfl⟩
    rw [← hR] at Ry Rt
    rw [← hQ] at Qy Qt
    rw [← hU] at Uy Ut
    rw [← hV] at Vy Vt
    replace H := f_aload_n H k82_24 rfl
    replace H := f_gr H k82_25 (ci := 10) (f := 0) (x := 64) (by decide +kernel) (by decide) (hr 63 0 64 rfl)
    replace H := f_iload_n H k82_28 rfl
    have Hob := f_aald H k82_29 (x := 6) (c := 8) (v := .ref R) (by decide) ((by show rvl (m.2.2 64 (nI a).toNatClampNeg) = _; rw [nI_clamp (by omega), hr 64 a R Rt]; rfl))
    clear H
    obtain ⟨hb29, H⟩ := Hob
    replace H := f_iload_n H k82_30 rfl
    replace H := f_iload_n H k82_31 rfl
    have Hob := f_iast H k82_32 (c := 8) Ry
    clear H
    obtain ⟨hb32, H⟩ := Hob
    replace H := f_aload_n H k82_33 rfl
    replace H := f_gr H k82_34 (ci := 10) (f := 0) (x := 64) (by decide +kernel) (by decide) (hr 63 0 64 rfl)
    replace H := f_iload_n H k82_37 rfl
    have Hob := f_aald H k82_38 (x := 6) (c := 8) (v := .ref Q) (by decide) ((by show rvl (m.2.2 64 (nI b).toNatClampNeg) = _; rw [nI_clamp (by omega), hr 64 b Q Qt]; rfl))
    clear H
    obtain ⟨hb38, H⟩ := Hob
    replace H := f_iload_n H k82_39 rfl
    replace H := f_iload_n H k82_40 rfl
    have Hob := f_iast H k82_41 (c := 8) Qy
    clear H
    obtain ⟨hb41, H⟩ := Hob
    replace H := f_aload_n H k82_42 rfl
    replace H := f_gr H k82_43 (ci := 10) (f := 1) (x := 73) (by decide +kernel) (by decide) (hr 63 1 73 rfl)
    replace H := f_iload_n H k82_46 rfl
    have Hob := f_aald H k82_47 (x := 6) (c := 8) (v := .ref U) (by decide) ((by show rvl (m.2.2 73 (nI a).toNatClampNeg) = _; rw [nI_clamp (by omega), hr 73 a U Ut]; rfl))
    clear H
    obtain ⟨hb47, H⟩ := Hob
    replace H := f_iload_n H k82_48 rfl
    replace H := f_iload_n H k82_49 rfl
    replace H := f_bipush H k82_50 (v := 16) (by decide)
    replace H := f_imul H k82_52
    replace H := f_iconst H k82_53 (v := 1) (by decide)
    replace H := f_iadd H k82_54
    have Hob := f_iast H k82_55 (c := 8) Uy
    clear H
    obtain ⟨hb55, H⟩ := Hob
    replace H := f_aload_n H k82_56 rfl
    replace H := f_gr H k82_57 (ci := 10) (f := 1) (x := 73) (by decide +kernel) (by decide) (hr 63 1 73 rfl)
    replace H := f_iload_n H k82_60 rfl
    have Hob := f_aald H k82_61 (x := 6) (c := 8) (v := .ref V) (by decide) ((by show rvl (m.2.2 73 (nI b).toNatClampNeg) = _; rw [nI_clamp (by omega), hr 73 b V Vt]; rfl))
    clear H
    obtain ⟨hb61, H⟩ := Hob
    replace H := f_iload_n H k82_62 rfl
    replace H := f_iload_n H k82_63 rfl
    replace H := f_bipush H k82_64 (v := 16) (by decide)
    replace H := f_imul H k82_66
    replace H := f_iconst H k82_67 (v := 1) (by decide)
    replace H := f_iadd H k82_68
    have Hob := f_iast H k82_69 (c := 8) Vy
    clear H
    obtain ⟨hb69, H⟩ := Hob
    replace H := f_ret H k82_70
    rw [e1, nI_clamp (by omega), nI_clamp (by omega)] at H
    subst hR hQ hU hV
    exact ⟨_, _, H, rfl, frX_s (by omega) (frX_s (by omega) (frX_s (by omega) (frX_s (by omega) ⟨rfl, fun _ _ _ _ => rfl⟩))), Or.inl ⟨h, mX_c hC hb (mX_c hC ha (mX_t hC hb (by omega) (mX_t hC ha (by omega) hX)))⟩⟩
  obtain ⟨Ry, Rt⟩ := rx_64 ⟨a, by omega⟩
  replace Ry : lay (65 + a) = (0, 0, 8) := Ry
  replace Rt : tR 64 a = some (65 + a) := Rt
  obtain ⟨R, hR⟩ : ∃ R, R = 65 + a := ⟨_, rfl⟩
  rw [← hR] at Ry Rt
  replace H := f_aload_n H k82_0 rfl
  replace H := f_gr H k82_1 (ci := 10) (f := 0) (x := 64) (by decide +kernel) (by decide) (hr 63 0 64 rfl)
  replace H := f_iload_n H k82_4 rfl
  have Hob := f_aald H k82_5 (x := 6) (c := 8) (v := .ref R) (by decide) ((by rw [nI_clamp (by omega), hr 64 a R Rt]; rfl))
  clear H
  obtain ⟨hb5, H⟩ := Hob
  replace H := f_iload_n H k82_6 rfl
  have Hob := f_iald H k82_7 (c := 8) Ry
  clear H
  obtain ⟨hb7, H⟩ := Hob
  replace H := f_iconst H k82_8 (v := -1) (by decide)
  rw [nI_clamp (by omega), hR, hab.1] at H
  have Hbr := f_icmp_eq H k82_9 (t := 24) (by decide)
  clear H
  rcases Hbr with ⟨c0, H⟩ | ⟨c0, H⟩
  · exact wr _ (Or.inl ((stp_m1 (by omega)).mp c0)) H
  · have c1 : ¬ T a b = 0 := fun q => c0 ((stp_m1 (by omega)).mpr q)
    replace H := f_iload_n H k82_12 rfl
    replace H := f_aload_n H k82_13 rfl
    replace H := f_gr H k82_14 (ci := 10) (f := 0) (x := 64) (by decide +kernel) (by decide) (hr 63 0 64 rfl)
    replace H := f_iload_n H k82_17 rfl
    have Hob := f_aald H k82_18 (x := 6) (c := 8) (v := .ref R) (by decide) ((by rw [nI_clamp (by omega), hr 64 a R Rt]; rfl))
    clear H
    obtain ⟨hb18, H⟩ := Hob
    replace H := f_iload_n H k82_19 rfl
    have Hob := f_iald H k82_20 (c := 8) Ry
    clear H
    obtain ⟨hb20, H⟩ := Hob
    rw [nI_clamp (by omega), hR, hab.1, stp_n c1] at H
    have Hbr := f_icmp_ge H k82_21 (t := 70) (by decide)
    clear H
    rcases Hbr with ⟨c2, H⟩ | ⟨c2, H⟩
    · rw [nxle (by omega) (by omega)] at c2
      replace H := f_ret H k82_70
      exact ⟨_, _, H, rfl, ⟨rfl, fun _ _ _ _ => rfl⟩, Or.inr ⟨by omega, hX⟩⟩
    · rw [nxle (by omega) (by omega)] at c2
      exact wr _ (Or.inr (by omega)) H
theorem k81_0 : lkc 0 (kcode 81) = some (.aload_n 0) := by decide +kernel
theorem k81_1 : lkc 1 (kcode 81) = some (.aload_n 1) := by decide +kernel
theorem k81_2 : lkc 2 (kcode 81) = some (.getfield 23) := by decide +kernel
theorem k81_5 : lkc 5 (kcode 81) = some (.putfield 29) := by decide +kernel
theorem k81_8 : lkc 8 (kcode 81) = some (.iconst 0) := by decide +kernel
theorem k81_9 : lkc 9 (kcode 81) = some (.istore_n 3) := by decide +kernel
theorem k81_10 : lkc 10 (kcode 81) = some (.iload_n 3) := by decide +kernel
theorem k81_11 : lkc 11 (kcode 81) = some (.aload_n 0) := by decide +kernel
theorem k81_12 : lkc 12 (kcode 81) = some (.getfield 29) := by decide +kernel
theorem k81_15 : lkc 15 (kcode 81) = some (.if_icmp .ge 58) := by decide +kernel
theorem k81_18 : lkc 18 (kcode 81) = some (.iconst 0) := by decide +kernel
theorem k81_19 : lkc 19 (kcode 81) = some (.istore 4) := by decide +kernel
theorem k81_21 : lkc 21 (kcode 81) = some (.iload 4) := by decide +kernel
theorem k81_23 : lkc 23 (kcode 81) = some (.aload_n 0) := by decide +kernel
theorem k81_24 : lkc 24 (kcode 81) = some (.getfield 29) := by decide +kernel
theorem k81_27 : lkc 27 (kcode 81) = some (.if_icmp .ge 40) := by decide +kernel
theorem k81_30 : lkc 30 (kcode 81) = some (.aload_n 0) := by decide +kernel
theorem k81_31 : lkc 31 (kcode 81) = some (.getfield 11) := by decide +kernel
theorem k81_34 : lkc 34 (kcode 81) = some (.iload_n 3) := by decide +kernel
theorem k81_35 : lkc 35 (kcode 81) = some (.aaload) := by decide +kernel
theorem k81_36 : lkc 36 (kcode 81) = some (.iload 4) := by decide +kernel
theorem k81_38 : lkc 38 (kcode 81) = some (.iconst (-1)) := by decide +kernel
theorem k81_39 : lkc 39 (kcode 81) = some (.iastore) := by decide +kernel
theorem k81_40 : lkc 40 (kcode 81) = some (.aload_n 0) := by decide +kernel
theorem k81_41 : lkc 41 (kcode 81) = some (.getfield 16) := by decide +kernel
theorem k81_44 : lkc 44 (kcode 81) = some (.iload_n 3) := by decide +kernel
theorem k81_45 : lkc 45 (kcode 81) = some (.aaload) := by decide +kernel
theorem k81_46 : lkc 46 (kcode 81) = some (.iload 4) := by decide +kernel
theorem k81_48 : lkc 48 (kcode 81) = some (.iload_n 3) := by decide +kernel
theorem k81_49 : lkc 49 (kcode 81) = some (.iload 4) := by decide +kernel
theorem k81_51 : lkc 51 (kcode 81) = some (.if_icmp .ne 7) := by decide +kernel
theorem k81_54 : lkc 54 (kcode 81) = some (.iconst 0) := by decide +kernel
theorem k81_55 : lkc 55 (kcode 81) = some (.goto 5) := by decide +kernel
theorem k81_58 : lkc 58 (kcode 81) = some (.ldc 30) := by decide +kernel
theorem k81_60 : lkc 60 (kcode 81) = some (.iastore) := by decide +kernel
theorem k81_61 : lkc 61 (kcode 81) = some (.iinc 4 1) := by decide +kernel
theorem k81_64 : lkc 64 (kcode 81) = some (.goto (-43)) := by decide +kernel
theorem k81_67 : lkc 67 (kcode 81) = some (.iinc 3 1) := by decide +kernel
theorem k81_70 : lkc 70 (kcode 81) = some (.goto (-60)) := by decide +kernel
theorem k81_73 : lkc 73 (kcode 81) = some (.iconst 0) := by decide +kernel
theorem k81_74 : lkc 74 (kcode 81) = some (.istore_n 3) := by decide +kernel
theorem k81_75 : lkc 75 (kcode 81) = some (.iload_n 3) := by decide +kernel
theorem k81_76 : lkc 76 (kcode 81) = some (.aload_n 1) := by decide +kernel
theorem k81_77 : lkc 77 (kcode 81) = some (.getfield 31) := by decide +kernel
theorem k81_80 : lkc 80 (kcode 81) = some (.if_icmp .ge 36) := by decide +kernel
theorem k81_83 : lkc 83 (kcode 81) = some (.iload_n 2) := by decide +kernel
theorem k81_84 : lkc 84 (kcode 81) = some (.iload_n 3) := by decide +kernel
theorem k81_85 : lkc 85 (kcode 81) = some (.ishr) := by decide +kernel
theorem k81_86 : lkc 86 (kcode 81) = some (.iconst 1) := by decide +kernel
theorem k81_87 : lkc 87 (kcode 81) = some (.iand) := by decide +kernel
theorem k81_88 : lkc 88 (kcode 81) = some (.ifCond .eq 22) := by decide +kernel
theorem k81_91 : lkc 91 (kcode 81) = some (.aload_n 0) := by decide +kernel
theorem k81_92 : lkc 92 (kcode 81) = some (.aload_n 1) := by decide +kernel
theorem k81_93 : lkc 93 (kcode 81) = some (.iload_n 3) := by decide +kernel
theorem k81_94 : lkc 94 (kcode 81) = some (.invokevirtual 34) := by decide +kernel
theorem k81_97 : lkc 97 (kcode 81) = some (.aload_n 1) := by decide +kernel
theorem k81_98 : lkc 98 (kcode 81) = some (.iload_n 3) := by decide +kernel
theorem k81_99 : lkc 99 (kcode 81) = some (.invokevirtual 38) := by decide +kernel
theorem k81_102 : lkc 102 (kcode 81) = some (.aload_n 1) := by decide +kernel
theorem k81_103 : lkc 103 (kcode 81) = some (.iload_n 3) := by decide +kernel
theorem k81_104 : lkc 104 (kcode 81) = some (.invokevirtual 41) := by decide +kernel
theorem k81_107 : lkc 107 (kcode 81) = some (.invokevirtual 44) := by decide +kernel
theorem k81_110 : lkc 110 (kcode 81) = some (.iinc 3 1) := by decide +kernel
theorem k81_113 : lkc 113 (kcode 81) = some (.goto (-38)) := by decide +kernel
theorem k81_116 : lkc 116 (kcode 81) = some (.iconst 0) := by decide +kernel
theorem k81_117 : lkc 117 (kcode 81) = some (.istore_n 3) := by decide +kernel
theorem k81_118 : lkc 118 (kcode 81) = some (.iload_n 3) := by decide +kernel
theorem k81_119 : lkc 119 (kcode 81) = some (.aload_n 0) := by decide +kernel
theorem k81_120 : lkc 120 (kcode 81) = some (.getfield 29) := by decide +kernel
theorem k81_123 : lkc 123 (kcode 81) = some (.if_icmp .ge 87) := by decide +kernel
theorem k81_126 : lkc 126 (kcode 81) = some (.iconst 0) := by decide +kernel
theorem k81_127 : lkc 127 (kcode 81) = some (.istore 4) := by decide +kernel
theorem k81_129 : lkc 129 (kcode 81) = some (.iload 4) := by decide +kernel
theorem k81_131 : lkc 131 (kcode 81) = some (.aload_n 0) := by decide +kernel
theorem k81_132 : lkc 132 (kcode 81) = some (.getfield 29) := by decide +kernel
theorem k81_135 : lkc 135 (kcode 81) = some (.if_icmp .ge 69) := by decide +kernel
theorem k81_138 : lkc 138 (kcode 81) = some (.iconst 0) := by decide +kernel
theorem k81_139 : lkc 139 (kcode 81) = some (.istore 5) := by decide +kernel
theorem k81_141 : lkc 141 (kcode 81) = some (.iload 5) := by decide +kernel
theorem k81_143 : lkc 143 (kcode 81) = some (.aload_n 0) := by decide +kernel
theorem k81_144 : lkc 144 (kcode 81) = some (.getfield 29) := by decide +kernel
theorem k81_147 : lkc 147 (kcode 81) = some (.if_icmp .ge 51) := by decide +kernel
theorem k81_150 : lkc 150 (kcode 81) = some (.aload_n 0) := by decide +kernel
theorem k81_151 : lkc 151 (kcode 81) = some (.getfield 16) := by decide +kernel
theorem k81_154 : lkc 154 (kcode 81) = some (.iload 4) := by decide +kernel
theorem k81_156 : lkc 156 (kcode 81) = some (.aaload) := by decide +kernel
theorem k81_157 : lkc 157 (kcode 81) = some (.iload 5) := by decide +kernel
theorem k81_159 : lkc 159 (kcode 81) = some (.aload_n 0) := by decide +kernel
theorem k81_160 : lkc 160 (kcode 81) = some (.getfield 16) := by decide +kernel
theorem k81_163 : lkc 163 (kcode 81) = some (.iload 4) := by decide +kernel
theorem k81_165 : lkc 165 (kcode 81) = some (.aaload) := by decide +kernel
theorem k81_166 : lkc 166 (kcode 81) = some (.iload 5) := by decide +kernel
theorem k81_168 : lkc 168 (kcode 81) = some (.iaload) := by decide +kernel
theorem k81_169 : lkc 169 (kcode 81) = some (.aload_n 0) := by decide +kernel
theorem k81_170 : lkc 170 (kcode 81) = some (.getfield 16) := by decide +kernel
theorem k81_173 : lkc 173 (kcode 81) = some (.iload 4) := by decide +kernel
theorem k81_175 : lkc 175 (kcode 81) = some (.aaload) := by decide +kernel
theorem k81_176 : lkc 176 (kcode 81) = some (.iload_n 3) := by decide +kernel
theorem k81_177 : lkc 177 (kcode 81) = some (.iaload) := by decide +kernel
theorem k81_178 : lkc 178 (kcode 81) = some (.aload_n 0) := by decide +kernel
theorem k81_179 : lkc 179 (kcode 81) = some (.getfield 16) := by decide +kernel
theorem k81_182 : lkc 182 (kcode 81) = some (.iload_n 3) := by decide +kernel
theorem k81_183 : lkc 183 (kcode 81) = some (.aaload) := by decide +kernel
theorem k81_184 : lkc 184 (kcode 81) = some (.iload 5) := by decide +kernel
theorem k81_186 : lkc 186 (kcode 81) = some (.iaload) := by decide +kernel
theorem k81_187 : lkc 187 (kcode 81) = some (.iadd) := by decide +kernel
theorem k81_188 : lkc 188 (kcode 81) = some (.invokestatic 48) := by decide +kernel
theorem k81_191 : lkc 191 (kcode 81) = some (.iastore) := by decide +kernel
theorem k81_192 : lkc 192 (kcode 81) = some (.iinc 5 1) := by decide +kernel
theorem k81_195 : lkc 195 (kcode 81) = some (.goto (-54)) := by decide +kernel
theorem k81_198 : lkc 198 (kcode 81) = some (.iinc 4 1) := by decide +kernel
theorem k81_201 : lkc 201 (kcode 81) = some (.goto (-72)) := by decide +kernel
theorem k81_204 : lkc 204 (kcode 81) = some (.iinc 3 1) := by decide +kernel
theorem k81_207 : lkc 207 (kcode 81) = some (.goto (-89)) := by decide +kernel
theorem k81_210 : lkc 210 (kcode 81) = some (.return_) := by decide +kernel
/-! forward: the class measures its ways -/
set_option maxHeartbeats 4000000 in
theorem c_measure {m : xM} {C S w o : Nat} {A B Y : Nat → Nat} (hr : rS m) (hT : xT m C S A B Y) (ho : ∀ i, i < S → o.testBit i = !(w.testBit i)) (ho2 : o < 65536) : fC 81 [.ref 63, .ref 3, .int (nI o)] m (fun rv m' => rv = none ∧ frX m m' ∧ mX m' C (wsX A B Y w S).1 (wyX C S A B Y w)) := by
  refine fC_of (by decide) (fun d n P H => ?_)
  obtain ⟨t1, t2, t3, t4, t5, t6⟩ := id hT
  have hS : ∀ s, s < S → A s ≠ B s ∧ 1 ≤ Y s ∧ Y s ≤ 40 := fun s hs => ⟨(t5 s hs).2.2.2.2.2.1, (t5 s hs).2.2.2.2.2.2.1, (t5 s hs).2.2.2.2.2.2.2⟩
  have hle : ∀ s, s ≤ S → mle 1000000 (wsX A B Y w s).2 := fun s hs => wsX_le (fun k hk => hS k (by omega))
  -- over all corners
  have lB : ∀ n N, n ≤ N → ∀ o a b z2 (T c : Mt) m2, o < C → a < C → b ≤ C → mle 1000000 c → frX m m2 → rS m2 → mX m2 C T (fwB o a c b) → (∀ m2, frX m m2 → rS m2 → mX m2 C T (fwB o a c C) → xF 81 (xw d) P N 198 [(5, .int (nI C)), (4, .int (nI a)), (3, .int (nI o)), (0, .ref 63), (1, .ref 3), (2, .int z2)] [] m2 → ∃ rv m', P rv m' ∧ rv = none ∧ frX m m' ∧ mX m' C (wsX A B Y w S).1 (wyX C S A B Y w)) → xF 81 (xw d) P n 141 [(5, .int (nI b)), (4, .int (nI a)), (3, .int (nI o)), (0, .ref 63), (1, .ref 3), (2, .int z2)] [] m2 → ∃ rv m', P rv m' ∧ rv = none ∧ frX m m' ∧ mX m' C (wsX A B Y w S).1 (wyX C S A B Y w) := by
    intro n
    induction n with
    | zero => exact fun N _ o a b z2 T c m2 _ _ _ _ _ _ _ _ H => (xF_0 H).elim
    | succ n ih =>
      intro N hN o a b z2 T c m2 ho ha hb hc hf hr hY kk H
      replace H := f1_iload H k81_141 rfl
      replace H := f_aload_n H k81_143 rfl
      replace H := f_gi H k81_144 (ci := 10) (f := 3) (by decide +kernel) (by decide)
      rw [hY.1] at H
      have Hbr := f_icmp_ge H k81_147 (t := 198) (by decide)
      clear H
      rcases Hbr with ⟨c0, H⟩ | ⟨c0, H⟩
      · rw [nxle (by omega) (by omega)] at c0
        have eb : b = C := by omega
        subst eb
        exact kk m2 hf hr hY (f_up H (by omega))
      · rw [nxle (by omega) (by omega)] at c0
        have hle1 := fwB_le (o := o) (a := a) hc b
        have l1 := hle1 a b
        have l2 := hle1 a o
        have l3 := hle1 o b
        have y1 := (hY.2 a b (by omega) (by omega)).2
        have y2 := (hY.2 a o (by omega) (by omega)).2
        have y3 := (hY.2 o b (by omega) (by omega)).2
        obtain ⟨Uy, Ut⟩ := rx_73 ⟨a, by omega⟩
        replace Uy : lay (74 + a) = (0, 0, 8) := Uy
        replace Ut : tR 73 a = some (74 + a) := Ut
        obtain ⟨Vy, Vt⟩ := rx_73 ⟨o, by omega⟩
        replace Vy : lay (74 + o) = (0, 0, 8) := Vy
        replace Vt : tR 73 o = some (74 + o) := Vt
        obtain ⟨U, hU⟩ : ∃ R, R = 74 + a := ⟨_, rfl⟩
        obtain ⟨V, hV⟩ : ∃ R, R = 74 + o := ⟨_, rfl⟩
        rw [← hU] at Uy Ut y1 y2
        rw [← hV] at Vy Vt y3
        replace H := f_aload_n H k81_150 rfl
        replace H := f_gr H k81_151 (ci := 10) (f := 1) (x := 73) (by decide +kernel) (by decide) (hr 63 1 73 rfl)
        replace H := f_iload H k81_154 rfl
        have Hob := f_aald H k81_156 (x := 6) (c := 8) (v := .ref U) (by decide) ((by rw [nI_clamp (by omega), hr 73 a U Ut]; rfl))
        clear H
        obtain ⟨hb156, H⟩ := Hob
        replace H := f_iload H k81_157 rfl
        replace H := f_aload_n H k81_159 rfl
        replace H := f_gr H k81_160 (ci := 10) (f := 1) (x := 73) (by decide +kernel) (by decide) (hr 63 1 73 rfl)
        replace H := f_iload H k81_163 rfl
        have Hob := f_aald H k81_165 (x := 6) (c := 8) (v := .ref U) (by decide) ((by rw [nI_clamp (by omega), hr 73 a U Ut]; rfl))
        clear H
        obtain ⟨hb165, H⟩ := Hob
        replace H := f_iload H k81_166 rfl
        have Hob := f_iald H k81_168 (c := 8) Uy
        clear H
        obtain ⟨hb168, H⟩ := Hob
        replace H := f_aload_n H k81_169 rfl
        replace H := f_gr H k81_170 (ci := 10) (f := 1) (x := 73) (by decide +kernel) (by decide) (hr 63 1 73 rfl)
        replace H := f_iload H k81_173 rfl
        have Hob := f_aald H k81_175 (x := 6) (c := 8) (v := .ref U) (by decide) ((by rw [nI_clamp (by omega), hr 73 a U Ut]; rfl))
        clear H
        obtain ⟨hb175, H⟩ := Hob
        replace H := f_iload_n H k81_176 rfl
        have Hob := f_iald H k81_177 (c := 8) Uy
        clear H
        obtain ⟨hb177, H⟩ := Hob
        replace H := f_aload_n H k81_178 rfl
        replace H := f_gr H k81_179 (ci := 10) (f := 1) (x := 73) (by decide +kernel) (by decide) (hr 63 1 73 rfl)
        replace H := f_iload_n H k81_182 rfl
        have Hob := f_aald H k81_183 (x := 6) (c := 8) (v := .ref V) (by decide) ((by rw [nI_clamp (by omega), hr 73 o V Vt]; rfl))
        clear H
        obtain ⟨hb183, H⟩ := Hob
        replace H := f_iload H k81_184 rfl
        have Hob := f_iald H k81_186 (c := 8) Vy
        clear H
        obtain ⟨hb186, H⟩ := Hob
        replace H := f_iadd H k81_187
        rw [nI_clamp (by omega), nI_clamp (by omega), y1, y2, y3, r_ad] at H
        obtain ⟨rv, m3, ⟨rfl, e3⟩, h9_188⟩ := f_ins H k81_188 (by decide +kernel) (as := [.int _, .int _]) (r := [.int _, .ref U]) (by rfl) (c_minI (by omega) (by omega))
        replace H := h9_188
        rw [← e3] at H
        clear e3
        have Hob := f_iast H k81_191 (c := 8) Uy
        clear H
        obtain ⟨hb191, H⟩ := Hob
        replace H := f_iinc H k81_192 rfl (l2 := [(5, .int (nI b + 1)), (4, .int (nI a)), (3, .int (nI o)), (0, .ref 63), (1, .ref 3), (2, .int z2)]) rfl
        replace H := f_goto H k81_195 (t := 141) (by decide)
        rw [nI_clamp (by omega), nI_s] at H
        subst hU hV
        exact ih N (by omega) o a (b + 1) z2 T c (mI m2 (74 + a) b _) ho ha (by omega) hc (frX_s (by omega) hf) hr (by rw [fwB_s]; exact mX_c t3 ha hY) kk H
  have lA : ∀ n N, n ≤ N → ∀ o a z2 z5 (T c : Mt) m2, o < C → a ≤ C → mle 1000000 c → frX m m2 → rS m2 → mX m2 C T (fwA C o c a) → (∀ z5 m2, frX m m2 → rS m2 → mX m2 C T (fwA C o c C) → xF 81 (xw d) P N 204 [(4, .int (nI C)), (3, .int (nI o)), (5, .int z5), (0, .ref 63), (1, .ref 3), (2, .int z2)] [] m2 → ∃ rv m', P rv m' ∧ rv = none ∧ frX m m' ∧ mX m' C (wsX A B Y w S).1 (wyX C S A B Y w)) → xF 81 (xw d) P n 129 [(4, .int (nI a)), (3, .int (nI o)), (5, .int z5), (0, .ref 63), (1, .ref 3), (2, .int z2)] [] m2 → ∃ rv m', P rv m' ∧ rv = none ∧ frX m m' ∧ mX m' C (wsX A B Y w S).1 (wyX C S A B Y w) := by
    intro n
    induction n with
    | zero => exact fun N _ o a z2 z5 T c m2 _ _ _ _ _ _ _ H => (xF_0 H).elim
    | succ n ih =>
      intro N hN o a z2 z5 T c m2 ho ha hc hf hr hY kk H
      replace H := f1_iload H k81_129 rfl
      replace H := f_aload_n H k81_131 rfl
      replace H := f_gi H k81_132 (ci := 10) (f := 3) (by decide +kernel) (by decide)
      rw [hY.1] at H
      have Hbr := f_icmp_ge H k81_135 (t := 204) (by decide)
      clear H
      rcases Hbr with ⟨c0, H⟩ | ⟨c0, H⟩
      · rw [nxle (by omega) (by omega)] at c0
        have eb : a = C := by omega
        subst eb
        exact kk z5 m2 hf hr hY (f_up H (by omega))
      · rw [nxle (by omega) (by omega)] at c0
        replace H := f_iconst H k81_138 (v := 0) (by decide)
        replace H := f_istore H k81_139 (l2 := [(5, .int 0), (4, .int (nI a)), (3, .int (nI o)), (0, .ref 63), (1, .ref 3), (2, .int z2)]) rfl
        refine lB n n (Nat.le_refl _) o a 0 z2 T (fwA C o c a) m2 ho (by omega) (Nat.zero_le _) (fwA_le hc a) hf hr hY (fun m3 hf hr hY H => ?_) H
        replace H := f_iinc H k81_198 rfl (l2 := [(4, .int (nI a + 1)), (5, .int (nI C)), (3, .int (nI o)), (0, .ref 63), (1, .ref 3), (2, .int z2)]) rfl
        replace H := f_goto H k81_201 (t := 129) (by decide)
        rw [nI_s] at H
        exact ih N (by omega) o (a + 1) z2 (nI C) T c m3 ho (by omega) hc hf hr (by rw [fwA_s]; exact hY) kk (f_ext H (lE_cons rfl (lE_cons rfl (lE_cons rfl (lE_cons rfl (lE_cons rfl (lE_cons rfl lE_nil)))))) rfl rfl)
  have lO : ∀ n o z2 z4 z5 (T c : Mt) m2, o ≤ C → mle 1000000 c → T = (wsX A B Y w S).1 → c = (wsX A B Y w S).2 → frX m m2 → rS m2 → mX m2 C T (fwO C c o) → xF 81 (xw d) P n 118 [(3, .int (nI o)), (4, .int z4), (5, .int z5), (0, .ref 63), (1, .ref 3), (2, .int z2)] [] m2 → ∃ rv m', P rv m' ∧ rv = none ∧ frX m m' ∧ mX m' C (wsX A B Y w S).1 (wyX C S A B Y w) := by
    intro n
    induction n with
    | zero => exact fun o z2 z4 z5 T c m2 _ _ _ _ _ _ _ H => (xF_0 H).elim
    | succ n ih =>
      intro o z2 z4 z5 T c m2 ho hc eT ec hf hr hY H
      replace H := f1_iload_n H k81_118 rfl
      replace H := f_aload_n H k81_119 rfl
      replace H := f_gi H k81_120 (ci := 10) (f := 3) (by decide +kernel) (by decide)
      rw [hY.1] at H
      have Hbr := f_icmp_ge H k81_123 (t := 210) (by decide)
      clear H
      rcases Hbr with ⟨c0, H⟩ | ⟨c0, H⟩
      · rw [nxle (by omega) (by omega)] at c0
        have eb : o = C := by omega
        subst eb
        replace H := f_ret H k81_210
        exact ⟨_, _, H, rfl, hf, by rw [wyX, ← ec, ← eT]; exact hY⟩
      · rw [nxle (by omega) (by omega)] at c0
        replace H := f_iconst H k81_126 (v := 0) (by decide)
        replace H := f_istore H k81_127 (l2 := [(4, .int 0), (3, .int (nI o)), (5, .int z5), (0, .ref 63), (1, .ref 3), (2, .int z2)]) rfl
        refine lA n n (Nat.le_refl _) o 0 z2 z5 T (fwO C c o) m2 (by omega) (Nat.zero_le _) (fwO_le hc o) hf hr hY (fun z5 m3 hf hr hY H => ?_) (f_ext H (lE_cons rfl (lE_cons rfl (lE_cons rfl (lE_cons rfl (lE_cons rfl (lE_cons rfl lE_nil)))))) rfl rfl)
        replace H := f_iinc H k81_204 rfl (l2 := [(3, .int (nI o + 1)), (4, .int (nI C)), (5, .int z5), (0, .ref 63), (1, .ref 3), (2, .int z2)]) rfl
        replace H := f_goto H k81_207 (t := 118) (by decide)
        rw [nI_s] at H
        exact ih (o + 1) z2 (nI C) z5 T c m3 (by omega) hc eT ec hf hr (by rw [fwO_s]; exact hY) (f_ext H (lE_cons rfl (lE_cons rfl (lE_cons rfl (lE_cons rfl (lE_cons rfl (lE_cons rfl lE_nil)))))) rfl rfl)
  -- over the streets
  have lS : ∀ n s z4 z5 m2, s ≤ S → frX m m2 → rS m2 → mX m2 C (wsX A B Y w s).1 (wsX A B Y w s).2 → xF 81 (xw d) P n 75 [(3, .int (nI s)), (4, .int z4), (5, .int z5), (0, .ref 63), (1, .ref 3), (2, .int (nI o))] [] m2 → ∃ rv m', P rv m' ∧ rv = none ∧ frX m m' ∧ mX m' C (wsX A B Y w S).1 (wyX C S A B Y w) := by
    intro n
    induction n with
    | zero => exact fun s z4 z5 m2 _ _ _ _ H => (xF_0 H).elim
    | succ n ih =>
      intro s z4 z5 m2 hs hf hr hY H
      have hT2 : xT m2 C S A B Y := xT_X hT hf
      replace H := f1_iload_n H k81_75 rfl
      replace H := f_aload_n H k81_76 rfl
      replace H := f_gi H k81_77 (ci := 5) (f := 1) (by decide +kernel) (by decide)
      rw [hT2.2.1] at H
      have Hbr := f_icmp_ge H k81_80 (t := 116) (by decide)
      clear H
      rcases Hbr with ⟨c0, H⟩ | ⟨c0, H⟩
      · rw [nxle (by omega) (by omega)] at c0
        have eb : s = S := by omega
        subst eb
        replace H := f_iconst H k81_116 (v := 0) (by decide)
        replace H := f_istore_n H k81_117 (l2 := [(3, .int 0), (4, .int z4), (5, .int z5), (0, .ref 63), (1, .ref 3), (2, .int (nI o))]) rfl
        exact lO n 0 (nI o) z4 z5 _ _ m2 (Nat.zero_le _) (hle s (Nat.le_refl _)) rfl rfl hf hr hY H
      · rw [nxle (by omega) (by omega)] at c0
        obtain ⟨s1, s2, s3, s4, s5, s6, s7, s8⟩ := t5 s (by omega)
        replace H := f_iload_n H k81_83 rfl
        replace H := f_iload_n H k81_84 rfl
        replace H := f_ishr H k81_85
        replace H := f_iconst H k81_86 (v := 1) (by decide)
        replace H := f_iand H k81_87
        rw [has_n (by omega) (by omega), ho s (by omega)] at H
        cases hb : w.testBit s with
        | true =>
          rw [hb] at H
          replace H := f_if_eq_t H k81_88 (by decide) (t := 110) (by decide)
          replace H := f_iinc H k81_110 rfl (l2 := [(3, .int (nI s + 1)), (4, .int z4), (5, .int z5), (0, .ref 63), (1, .ref 3), (2, .int (nI o))]) rfl
          replace H := f_goto H k81_113 (t := 75) (by decide)
          rw [nI_s] at H
          exact ih (s + 1) z4 z5 m2 (by omega) hf hr (by rw [wsX_t hb]; exact hY) H
        | false =>
          rw [hb] at H
          replace H := f_if_eq_f H k81_88 (by decide)
          replace H := f_aload_n H k81_91 rfl
          replace H := f_aload_n H k81_92 rfl
          replace H := f_iload_n H k81_93 rfl
          obtain ⟨rv, m3, ⟨rfl, e3⟩, h9_94⟩ := f_inv H k81_94 (by decide +kernel) (as := [.int _]) (b := 3) (r := [.ref 63]) (by rfl) (cn_endA hr hT2 (by omega))
          replace H := h9_94
          rw [← e3] at H
          clear e3
          replace H := f_aload_n H k81_97 rfl
          replace H := f_iload_n H k81_98 rfl
          obtain ⟨rv, m3, ⟨rfl, e3⟩, h9_99⟩ := f_inv H k81_99 (by decide +kernel) (as := [.int _]) (b := 3) (r := [.int _, .ref 63]) (by rfl) (cn_endB hr hT2 (by omega))
          replace H := h9_99
          rw [← e3] at H
          clear e3
          replace H := f_aload_n H k81_102 rfl
          replace H := f_iload_n H k81_103 rfl
          obtain ⟨rv, m3, ⟨rfl, e3⟩, h9_104⟩ := f_inv H k81_104 (by decide +kernel) (as := [.int _]) (b := 3) (r := [.int _, .int _, .ref 63]) (by rfl) (cn_yardsOf hr hT2 (by omega))
          replace H := h9_104
          rw [← e3] at H
          clear e3
          have hT40 : (wsX A B Y w s).1 (A s) (B s) ≤ 40 := by
            rcases (stR_ok (w := w) hS s (by omega) (A s) (B s)).2 with ⟨-, x1, -, -⟩ | ⟨-, ⟨x0, x1, x2⟩ | ⟨x0, x1, x2, x3⟩⟩ <;> omega
          obtain ⟨rv, m4, ⟨rfl, gf, hn⟩, h9_107⟩ := f_inv H k81_107 (by decide +kernel) (as := [.int _, .int _, .int _]) (b := 63) (r := []) (by rfl) (c_noteStreet hr t3 s4 s5 ⟨s7, s8⟩ hT40 hY)
          replace H := h9_107
          have hf4 := frX_t hf gf
          have hr := frX_r gf hr
          replace H := f_iinc H k81_110 rfl (l2 := [(3, .int (nI s + 1)), (4, .int z4), (5, .int z5), (0, .ref 63), (1, .ref 3), (2, .int (nI o))]) rfl
          replace H := f_goto H k81_113 (t := 75) (by decide)
          rw [nI_s] at H
          refine ih (s + 1) z4 z5 m4 (by omega) hf4 hr ?_ H
          rcases hn with ⟨n1, n2⟩ | ⟨n1, n2⟩
          · rw [wsX_y hb n1]
            exact n2
          · rw [wsX_n hb n1]
            exact n2
  -- the tables laid
  have b2 : ∀ n N, n ≤ N → ∀ a b z2 m2, a < C → b ≤ C → frX m m2 → rS m2 → m2.1 63 3 = nI C → (∀ i j, i < C → j < C → (i < a ∨ (i = a ∧ j < b)) → m2.1 (65 + i) j = -1 ∧ m2.1 (74 + i) j = nI (bas 1000000 i j)) → (∀ m2, frX m m2 → rS m2 → m2.1 63 3 = nI C → (∀ i j, i < C → j < C → i < a + 1 → m2.1 (65 + i) j = -1 ∧ m2.1 (74 + i) j = nI (bas 1000000 i j)) → xF 81 (xw d) P N 67 [(4, .int (nI C)), (3, .int (nI a)), (0, .ref 63), (1, .ref 3), (2, .int z2)] [] m2 → ∃ rv m', P rv m' ∧ rv = none ∧ frX m m' ∧ mX m' C (wsX A B Y w S).1 (wyX C S A B Y w)) → xF 81 (xw d) P n 21 [(4, .int (nI b)), (3, .int (nI a)), (0, .ref 63), (1, .ref 3), (2, .int z2)] [] m2 → ∃ rv m', P rv m' ∧ rv = none ∧ frX m m' ∧ mX m' C (wsX A B Y w S).1 (wyX C S A B Y w) := by
    intro n
    induction n with
    | zero => exact fun N _ a b z2 m2 _ _ _ _ _ _ _ H => (xF_0 H).elim
    | succ n ih =>
      intro N hN a b z2 m2 ha hb hf hr hC hY kk H
      replace H := f1_iload H k81_21 rfl
      replace H := f_aload_n H k81_23 rfl
      replace H := f_gi H k81_24 (ci := 10) (f := 3) (by decide +kernel) (by decide)
      rw [hC] at H
      have Hbr := f_icmp_ge H k81_27 (t := 67) (by decide)
      clear H
      rcases Hbr with ⟨c0, H⟩ | ⟨c0, H⟩
      · rw [nxle (by omega) (by omega)] at c0
        have eb : b = C := by omega
        subst eb
        exact kk m2 hf hr hC (fun i j hi hj h => hY i j hi hj (by omega)) (f_up H (by omega))
      · rw [nxle (by omega) (by omega)] at c0
        obtain ⟨Uy, Ut⟩ := rx_73 ⟨a, by omega⟩
        replace Uy : lay (74 + a) = (0, 0, 8) := Uy
        replace Ut : tR 73 a = some (74 + a) := Ut
        obtain ⟨Ry, Rt⟩ := rx_64 ⟨a, by omega⟩
        replace Ry : lay (65 + a) = (0, 0, 8) := Ry
        replace Rt : tR 64 a = some (65 + a) := Rt
        obtain ⟨U, hU⟩ : ∃ R, R = 74 + a := ⟨_, rfl⟩
        obtain ⟨R, hR⟩ : ∃ R, R = 65 + a := ⟨_, rfl⟩
        rw [← hU] at Uy Ut
        rw [← hR] at Ry Rt
        have nx : ∀ v : Int32, v = nI (bas 1000000 a b) → xF 81 (xw d) P n 60 [(4, .int (nI b)), (3, .int (nI a)), (0, .ref 63), (1, .ref 3), (2, .int z2)] [.int v, .int (nI b), .ref U] (mI m2 R b (-1)) → ∃ rv m', P rv m' ∧ rv = none ∧ frX m m' ∧ mX m' C (wsX A B Y w S).1 (wyX C S A B Y w) := by
          intro v ev H
          have Hob := f_iast H k81_60 (c := 8) Uy
          clear H
          obtain ⟨hb60, H⟩ := Hob
          replace H := f_iinc H k81_61 rfl (l2 := [(4, .int (nI b + 1)), (3, .int (nI a)), (0, .ref 63), (1, .ref 3), (2, .int z2)]) rfl
          replace H := f_goto H k81_64 (t := 21) (by decide)
          rw [nI_clamp (by omega), nI_s] at H
          subst hU hR
          refine ih N (by omega) a (b + 1) z2 (mI (mI m2 (65 + a) b (-1)) (74 + a) b v) ha (by omega) (frX_s (by omega) (frX_s (by omega) hf)) hr (by rw [mI_ne (by omega), mI_ne (by omega)]; exact hC) (fun i j hi hj h => ?_) kk H
          by_cases e : i = a ∧ j = b
          · obtain ⟨rfl, rfl⟩ := e
            exact ⟨by rw [mI_ne (by omega), mI_at], by rw [mI_at, ev]⟩
          · rw [mI_ne (by omega), mI_ne (by omega), mI_ne (by omega), mI_ne (by omega)]
            exact hY i j hi hj (by omega)
        replace H := f_aload_n H k81_30 rfl
        replace H := f_gr H k81_31 (ci := 10) (f := 0) (x := 64) (by decide +kernel) (by decide) (hr 63 0 64 rfl)
        replace H := f_iload_n H k81_34 rfl
        have Hob := f_aald H k81_35 (x := 6) (c := 8) (v := .ref R) (by decide) ((by rw [nI_clamp (by omega), hr 64 a R Rt]; rfl))
        clear H
        obtain ⟨hb35, H⟩ := Hob
        replace H := f_iload H k81_36 rfl
        replace H := f_iconst H k81_38 (v := -1) (by decide)
        have Hob := f_iast H k81_39 (c := 8) Ry
        clear H
        obtain ⟨hb39, H⟩ := Hob
        rw [show (nI b).toNatClampNeg = b from nI_clamp (by omega)] at H
        replace H := f_aload_n H k81_40 rfl
        replace H := f_gr H k81_41 (ci := 10) (f := 1) (x := 73) (by decide +kernel) (by decide) (hr 63 1 73 rfl)
        replace H := f_iload_n H k81_44 rfl
        have Hob := f_aald H k81_45 (x := 6) (c := 8) (v := .ref U) (by decide) ((by show rvl (m2.2.2 73 (nI a).toNatClampNeg) = _; rw [nI_clamp (by omega), hr 73 a U Ut]; rfl))
        clear H
        obtain ⟨hb45, H⟩ := Hob
        replace H := f_iload H k81_46 rfl
        replace H := f_iload_n H k81_48 rfl
        replace H := f_iload H k81_49 rfl
        have Hbr := f_icmp_ne H k81_51 (t := 58) (by decide)
        clear H
        rcases Hbr with ⟨c1, H⟩ | ⟨c1, H⟩
        · rw [nI_inj (by omega) (by omega)] at c1
          replace H := f_ldc_i H k81_58 (v := 1000000) (by decide +kernel)
          exact nx _ (by rw [show bas 1000000 a b = 1000000 from if_neg c1]; rfl) H
        · rw [nI_inj (by omega) (by omega)] at c1
          replace H := f_iconst H k81_54 (v := 0) (by decide)
          replace H := f_goto H k81_55 (t := 60) (by decide)
          exact nx _ (by rw [show bas 1000000 a b = 0 from if_pos c1]; rfl) H
  have b1 : ∀ n a z4 z2 m2, a ≤ C → z2 = nI o → frX m m2 → rS m2 → m2.1 63 3 = nI C → (∀ i j, i < C → j < C → i < a → m2.1 (65 + i) j = -1 ∧ m2.1 (74 + i) j = nI (bas 1000000 i j)) → xF 81 (xw d) P n 10 [(3, .int (nI a)), (4, .int z4), (0, .ref 63), (1, .ref 3), (2, .int z2)] [] m2 → ∃ rv m', P rv m' ∧ rv = none ∧ frX m m' ∧ mX m' C (wsX A B Y w S).1 (wyX C S A B Y w) := by
    intro n
    induction n with
    | zero => exact fun a z4 z2 m2 _ _ _ _ _ _ H => (xF_0 H).elim
    | succ n ih =>
      intro a z4 z2 m2 ha ez hf hr hC hY H
      replace H := f1_iload_n H k81_10 rfl
      replace H := f_aload_n H k81_11 rfl
      replace H := f_gi H k81_12 (ci := 10) (f := 3) (by decide +kernel) (by decide)
      rw [hC] at H
      have Hbr := f_icmp_ge H k81_15 (t := 73) (by decide)
      clear H
      rcases Hbr with ⟨c0, H⟩ | ⟨c0, H⟩
      · rw [nxle (by omega) (by omega)] at c0
        have eb : a = C := by omega
        subst eb
        subst ez
        replace H := f_iconst H k81_73 (v := 0) (by decide)
        replace H := f_istore_n H k81_74 (l2 := [(3, .int 0), (4, .int z4), (0, .ref 63), (1, .ref 3), (2, .int (nI o))]) rfl
        replace H := f_ext H (l' := [(3, .int 0), (4, .int z4), (5, .int 0), (0, .ref 63), (1, .ref 3), (2, .int (nI o))]) (lE_cons rfl (lE_cons rfl (lE_cons rfl (lE_cons rfl (lE_cons rfl (lE_nil)))))) rfl rfl
        exact lS n 0 z4 0 m2 (Nat.zero_le _) hf hr ⟨hC, fun i j hi hj => hY i j hi hj hi⟩ H
      · rw [nxle (by omega) (by omega)] at c0
        replace H := f_iconst H k81_18 (v := 0) (by decide)
        replace H := f_istore H k81_19 (l2 := [(4, .int 0), (3, .int (nI a)), (0, .ref 63), (1, .ref 3), (2, .int z2)]) rfl
        refine b2 n n (Nat.le_refl _) a 0 z2 m2 (by omega) (Nat.zero_le _) hf hr hC (fun i j hi hj h => hY i j hi hj (by omega)) (fun m3 hf hr hC hY H => ?_) H
        replace H := f_iinc H k81_67 rfl (l2 := [(3, .int (nI a + 1)), (4, .int (nI C)), (0, .ref 63), (1, .ref 3), (2, .int z2)]) rfl
        replace H := f_goto H k81_70 (t := 10) (by decide)
        rw [nI_s] at H
        exact ih (a + 1) (nI C) z2 m3 (by omega) ez hf hr hC hY (f_ext H (lE_cons rfl (lE_cons rfl (lE_cons rfl (lE_cons rfl (lE_cons rfl lE_nil))))) rfl rfl)
  replace H := f_aload_n H k81_0 rfl
  replace H := f_aload_n H k81_1 rfl
  replace H := f_gi H k81_2 (ci := 5) (f := 0) (by decide +kernel) (by decide)
  replace H := f_put_i H k81_5 (ci := 10) (f := 3) (by decide +kernel) (by decide)
  rw [t1] at H
  replace H := f_iconst H k81_8 (v := 0) (by decide)
  replace H := f_istore_n H k81_9 (l2 := [(3, .int 0), (0, .ref 63), (1, .ref 3), (2, .int (nI o))]) rfl
  replace H := f_ext H (l' := [(3, .int 0), (4, .int 0), (0, .ref 63), (1, .ref 3), (2, .int (nI o))]) (lE_cons rfl (lE_cons rfl (lE_cons rfl (lE_cons rfl (lE_nil))))) rfl rfl
  exact b1 n 0 0 (nI o) (mI m 63 3 (nI C)) (Nat.zero_le _) rfl ⟨rfl, fun a i _ h => mI_ne h⟩ hr mI_at (fun i j _ _ h => absurd h (Nat.not_lt_zero _)) H
theorem k199_0 : lkc 0 (kcode 199) = some (.aload_n 0) := by decide +kernel
theorem k199_1 : lkc 1 (kcode 199) = some (.getfield 71) := by decide +kernel
theorem k199_4 : lkc 4 (kcode 199) = some (.bipush 8) := by decide +kernel
theorem k199_6 : lkc 6 (kcode 199) = some (.iload_n 1) := by decide +kernel
theorem k199_7 : lkc 7 (kcode 199) = some (.imul) := by decide +kernel
theorem k199_8 : lkc 8 (kcode 199) = some (.iload_n 2) := by decide +kernel
theorem k199_9 : lkc 9 (kcode 199) = some (.iadd) := by decide +kernel
theorem k199_10 : lkc 10 (kcode 199) = some (.iaload) := by decide +kernel
theorem k199_11 : lkc 11 (kcode 199) = some (.ireturn) := by decide +kernel
theorem k200_0 : lkc 0 (kcode 200) = some (.aload_n 0) := by decide +kernel
theorem k200_1 : lkc 1 (kcode 200) = some (.iload_n 1) := by decide +kernel
theorem k200_2 : lkc 2 (kcode 200) = some (.iload_n 2) := by decide +kernel
theorem k200_3 : lkc 3 (kcode 200) = some (.invokevirtual 304) := by decide +kernel
theorem k200_6 : lkc 6 (kcode 200) = some (.ldc_w 301) := by decide +kernel
theorem k200_9 : lkc 9 (kcode 200) = some (.if_icmp .ge 7) := by decide +kernel
theorem k200_12 : lkc 12 (kcode 200) = some (.iconst 1) := by decide +kernel
theorem k200_13 : lkc 13 (kcode 200) = some (.goto 4) := by decide +kernel
theorem k200_16 : lkc 16 (kcode 200) = some (.iconst 0) := by decide +kernel
theorem k200_17 : lkc 17 (kcode 200) = some (.ireturn) := by decide +kernel
theorem k202_0 : lkc 0 (kcode 202) = some (.aload_n 0) := by decide +kernel
theorem k202_1 : lkc 1 (kcode 202) = some (.aload_n 1) := by decide +kernel
theorem k202_2 : lkc 2 (kcode 202) = some (.bipush 24) := by decide +kernel
theorem k202_4 : lkc 4 (kcode 202) = some (.iaload) := by decide +kernel
theorem k202_5 : lkc 5 (kcode 202) = some (.invokevirtual 319) := by decide +kernel
theorem k202_8 : lkc 8 (kcode 202) = some (.istore 4) := by decide +kernel
theorem k202_10 : lkc 10 (kcode 202) = some (.aload_n 1) := by decide +kernel
theorem k202_11 : lkc 11 (kcode 202) = some (.bipush 16) := by decide +kernel
theorem k202_13 : lkc 13 (kcode 202) = some (.iconst 2) := by decide +kernel
theorem k202_14 : lkc 14 (kcode 202) = some (.iload_n 2) := by decide +kernel
theorem k202_15 : lkc 15 (kcode 202) = some (.imul) := by decide +kernel
theorem k202_16 : lkc 16 (kcode 202) = some (.iadd) := by decide +kernel
theorem k202_17 : lkc 17 (kcode 202) = some (.iconst 0) := by decide +kernel
theorem k202_18 : lkc 18 (kcode 202) = some (.iadd) := by decide +kernel
theorem k202_19 : lkc 19 (kcode 202) = some (.iaload) := by decide +kernel
theorem k202_20 : lkc 20 (kcode 202) = some (.istore 5) := by decide +kernel
theorem k202_22 : lkc 22 (kcode 202) = some (.iload 4) := by decide +kernel
theorem k202_24 : lkc 24 (kcode 202) = some (.iload_n 3) := by decide +kernel
theorem k202_25 : lkc 25 (kcode 202) = some (.invokestatic 223) := by decide +kernel
theorem k202_28 : lkc 28 (kcode 202) = some (.ifCond .eq 13) := by decide +kernel
theorem k202_31 : lkc 31 (kcode 202) = some (.aload_n 0) := by decide +kernel
theorem k202_32 : lkc 32 (kcode 202) = some (.iload 5) := by decide +kernel
theorem k202_34 : lkc 34 (kcode 202) = some (.iload_n 3) := by decide +kernel
theorem k202_35 : lkc 35 (kcode 202) = some (.invokevirtual 322) := by decide +kernel
theorem k202_38 : lkc 38 (kcode 202) = some (.ifCond .ne 7) := by decide +kernel
theorem k202_41 : lkc 41 (kcode 202) = some (.ldc_w 325) := by decide +kernel
theorem k202_44 : lkc 44 (kcode 202) = some (.ireturn) := by decide +kernel
theorem k202_45 : lkc 45 (kcode 202) = some (.aload_n 1) := by decide +kernel
theorem k202_46 : lkc 46 (kcode 202) = some (.bipush 16) := by decide +kernel
theorem k202_48 : lkc 48 (kcode 202) = some (.iconst 2) := by decide +kernel
theorem k202_49 : lkc 49 (kcode 202) = some (.iload_n 2) := by decide +kernel
theorem k202_50 : lkc 50 (kcode 202) = some (.imul) := by decide +kernel
theorem k202_51 : lkc 51 (kcode 202) = some (.iadd) := by decide +kernel
theorem k202_52 : lkc 52 (kcode 202) = some (.iconst 1) := by decide +kernel
theorem k202_53 : lkc 53 (kcode 202) = some (.iadd) := by decide +kernel
theorem k202_54 : lkc 54 (kcode 202) = some (.iaload) := by decide +kernel
theorem k202_55 : lkc 55 (kcode 202) = some (.istore 6) := by decide +kernel
theorem k202_57 : lkc 57 (kcode 202) = some (.aload_n 1) := by decide +kernel
theorem k202_58 : lkc 58 (kcode 202) = some (.iconst 2) := by decide +kernel
theorem k202_59 : lkc 59 (kcode 202) = some (.iload_n 3) := by decide +kernel
theorem k202_60 : lkc 60 (kcode 202) = some (.imul) := by decide +kernel
theorem k202_61 : lkc 61 (kcode 202) = some (.iconst 0) := by decide +kernel
theorem k202_62 : lkc 62 (kcode 202) = some (.iadd) := by decide +kernel
theorem k202_63 : lkc 63 (kcode 202) = some (.iaload) := by decide +kernel
theorem k202_64 : lkc 64 (kcode 202) = some (.istore 7) := by decide +kernel
theorem k202_66 : lkc 66 (kcode 202) = some (.aload_n 1) := by decide +kernel
theorem k202_67 : lkc 67 (kcode 202) = some (.iconst 2) := by decide +kernel
theorem k202_68 : lkc 68 (kcode 202) = some (.iload_n 3) := by decide +kernel
theorem k202_69 : lkc 69 (kcode 202) = some (.imul) := by decide +kernel
theorem k202_70 : lkc 70 (kcode 202) = some (.iconst 1) := by decide +kernel
theorem k202_71 : lkc 71 (kcode 202) = some (.iadd) := by decide +kernel
theorem k202_72 : lkc 72 (kcode 202) = some (.iaload) := by decide +kernel
theorem k202_73 : lkc 73 (kcode 202) = some (.istore 8) := by decide +kernel
theorem k202_75 : lkc 75 (kcode 202) = some (.iload 6) := by decide +kernel
theorem k202_77 : lkc 77 (kcode 202) = some (.iload 7) := by decide +kernel
theorem k202_79 : lkc 79 (kcode 202) = some (.iconst 2) := by decide +kernel
theorem k202_80 : lkc 80 (kcode 202) = some (.idiv) := by decide +kernel
theorem k202_81 : lkc 81 (kcode 202) = some (.iadd) := by decide +kernel
theorem k202_82 : lkc 82 (kcode 202) = some (.iconst 2) := by decide +kernel
theorem k202_83 : lkc 83 (kcode 202) = some (.iload 8) := by decide +kernel
theorem k202_85 : lkc 85 (kcode 202) = some (.imul) := by decide +kernel
theorem k202_86 : lkc 86 (kcode 202) = some (.iadd) := by decide +kernel
theorem k202_87 : lkc 87 (kcode 202) = some (.aload_n 0) := by decide +kernel
theorem k202_88 : lkc 88 (kcode 202) = some (.iload 5) := by decide +kernel
theorem k202_90 : lkc 90 (kcode 202) = some (.iload_n 3) := by decide +kernel
theorem k202_91 : lkc 91 (kcode 202) = some (.invokevirtual 304) := by decide +kernel
theorem k202_94 : lkc 94 (kcode 202) = some (.iconst 3) := by decide +kernel
theorem k202_95 : lkc 95 (kcode 202) = some (.idiv) := by decide +kernel
theorem k202_96 : lkc 96 (kcode 202) = some (.isub) := by decide +kernel
theorem k202_97 : lkc 97 (kcode 202) = some (.istore 9) := by decide +kernel
theorem k202_99 : lkc 99 (kcode 202) = some (.aload_n 0) := by decide +kernel
theorem k202_100 : lkc 100 (kcode 202) = some (.getfield 64) := by decide +kernel
theorem k202_103 : lkc 103 (kcode 202) = some (.iconst (-1)) := by decide +kernel
theorem k202_104 : lkc 104 (kcode 202) = some (.if_icmp .eq 31) := by decide +kernel
theorem k202_107 : lkc 107 (kcode 202) = some (.aload_n 0) := by decide +kernel
theorem k202_108 : lkc 108 (kcode 202) = some (.aload_n 0) := by decide +kernel
theorem k202_109 : lkc 109 (kcode 202) = some (.iload 5) := by decide +kernel
theorem k202_111 : lkc 111 (kcode 202) = some (.iload_n 3) := by decide +kernel
theorem k202_112 : lkc 112 (kcode 202) = some (.invokevirtual 304) := by decide +kernel
theorem k202_115 : lkc 115 (kcode 202) = some (.iload 7) := by decide +kernel
theorem k202_117 : lkc 117 (kcode 202) = some (.iload 6) := by decide +kernel
theorem k202_119 : lkc 119 (kcode 202) = some (.iload 8) := by decide +kernel
theorem k202_121 : lkc 121 (kcode 202) = some (.iload 4) := by decide +kernel
theorem k202_123 : lkc 123 (kcode 202) = some (.invokestatic 326) := by decide +kernel
theorem k202_126 : lkc 126 (kcode 202) = some (.aload_n 1) := by decide +kernel
theorem k202_127 : lkc 127 (kcode 202) = some (.bipush 26) := by decide +kernel
theorem k202_129 : lkc 129 (kcode 202) = some (.iaload) := by decide +kernel
theorem k202_130 : lkc 130 (kcode 202) = some (.invokevirtual 331) := by decide +kernel
theorem k202_133 : lkc 133 (kcode 202) = some (.istore 9) := by decide +kernel
theorem k202_135 : lkc 135 (kcode 202) = some (.bipush (-99)) := by decide +kernel
theorem k202_137 : lkc 137 (kcode 202) = some (.bipush 99) := by decide +kernel
theorem k202_139 : lkc 139 (kcode 202) = some (.iload 9) := by decide +kernel
theorem k202_141 : lkc 141 (kcode 202) = some (.invokestatic 302) := by decide +kernel
theorem k202_144 : lkc 144 (kcode 202) = some (.invokestatic 335) := by decide +kernel
theorem k202_147 : lkc 147 (kcode 202) = some (.ireturn) := by decide +kernel
theorem k267_0 : lkc 0 (kcode 267) = some (.iload_n 0) := by decide +kernel
theorem k267_1 : lkc 1 (kcode 267) = some (.iload_n 1) := by decide +kernel
theorem k267_2 : lkc 2 (kcode 267) = some (.if_icmp .lt 7) := by decide +kernel
theorem k267_5 : lkc 5 (kcode 267) = some (.iload_n 0) := by decide +kernel
theorem k267_6 : lkc 6 (kcode 267) = some (.goto 4) := by decide +kernel
theorem k267_9 : lkc 9 (kcode 267) = some (.iload_n 1) := by decide +kernel
theorem k267_10 : lkc 10 (kcode 267) = some (.ireturn) := by decide +kernel
/-! forward: how a chapel draws one (the reference): hidden or not, and whether one has a goal -/
theorem c_minA {m : xM} {x y : Int32} : fC 269 [.int x, .int y] m (fun rv m' => (∃ z : Int32, rv = some (.int z)) ∧ m = m') := by
  refine fC_of (by decide) (fun d n P H => ?_)
  replace H := f_iload_n H k269_0 rfl
  replace H := f_iload_n H k269_1 rfl
  have Hbr := f_icmp_gt H k269_2 (t := 9) (by decide)
  clear H
  rcases Hbr with ⟨c, H⟩ | ⟨c, H⟩
  · replace H := f_iload_n H k269_9 rfl
    replace H := f_iret H k269_10
    exact ⟨_, _, H, ⟨_, rfl⟩, rfl⟩
  · replace H := f_iload_n H k269_5 rfl
    replace H := f_goto H k269_6 (t := 10) (by decide)
    replace H := f_iret H k269_10
    exact ⟨_, _, H, ⟨_, rfl⟩, rfl⟩
theorem c_maxA {m : xM} {x y : Int32} : fC 267 [.int x, .int y] m (fun rv m' => (∃ z : Int32, rv = some (.int z) ∧ x.toInt ≤ z.toInt) ∧ m = m') := by
  refine fC_of (by decide) (fun d n P H => ?_)
  replace H := f_iload_n H k267_0 rfl
  replace H := f_iload_n H k267_1 rfl
  have Hbr := f_icmp_lt H k267_2 (t := 9) (by decide)
  clear H
  rcases Hbr with ⟨c, H⟩ | ⟨c, H⟩
  · rw [Int32.lt_iff_toInt_lt] at c
    replace H := f_iload_n H k267_9 rfl
    replace H := f_iret H k267_10
    exact ⟨_, _, H, ⟨_, rfl, by omega⟩, rfl⟩
  · replace H := f_iload_n H k267_5 rfl
    replace H := f_goto H k267_6 (t := 10) (by decide)
    replace H := f_iret H k267_10
    exact ⟨_, _, H, ⟨_, rfl, by omega⟩, rfl⟩
theorem c_far0 {m : xM} {C a b : Nat} {t : Mt} (hr : rS m) (hC : C ≤ 8) (ha : a < C) (hb : b < C) (hY : mY m C t) : fC 199 [.ref 314, .int (nI a), .int (nI b)] m (fun rv m' => rv = some (.int (nI (t a b))) ∧ m = m') := by
  refine fC_of (by decide) (fun d n P H => ?_)
  replace H := f_aload_n H k199_0 rfl
  replace H := f_gr H k199_1 (ci := 12) (f := 36) (x := 328) (by decide +kernel) (by decide) (hr 314 36 328 rfl)
  replace H := f_bipush H k199_4 (v := 8) (by decide)
  replace H := f_iload_n H k199_6 rfl
  replace H := f_imul H k199_7
  replace H := f_iload_n H k199_8 rfl
  replace H := f_iadd H k199_9
  have Hob := f_iald H k199_10 (c := 64) (by decide)
  clear H
  obtain ⟨hb10, H⟩ := Hob
  rw [show (8 : Int32) = nI 8 from rfl, nI_mul, r_ad, nI_clamp (by omega), hY a b ha hb] at H
  replace H := f_iret H k199_11
  exact ⟨_, _, H, rfl, rfl⟩
theorem c_mcan {m : xM} {C a b : Nat} {t : Mt} (hr : rS m) (hC : C ≤ 8) (ha : a < C) (hb : b < C) (hY : mY m C t) (ht : mle 100000 t) : fC 200 [.ref 314, .int (nI a), .int (nI b)] m (fun rv m' => rv = some (.int (if t a b < 100000 then 1 else 0)) ∧ m = m') := by
  refine fC_of (by decide) (fun d n P H => ?_)
  have h1 := ht a b
  replace H := f_aload_n H k200_0 rfl
  replace H := f_iload_n H k200_1 rfl
  replace H := f_iload_n H k200_2 rfl
  obtain ⟨rv, m3, ⟨rfl, e3⟩, h9_3⟩ := f_inv H k200_3 (by decide +kernel) (as := [.int _, .int _]) (b := 314) (r := []) (by rfl) (c_far0 hr hC ha hb hY)
  replace H := h9_3
  rw [← e3] at H
  clear e3
  replace H := f_ldc_w H k200_6 (v := 100000) (by decide +kernel)
  rw [show (100000 : Int32) = nI 100000 from rfl] at H
  have Hbr := f_icmp_ge H k200_9 (t := 16) (by decide)
  clear H
  rcases Hbr with ⟨c, H⟩ | ⟨c, H⟩
  · rw [nxle (by omega) (by omega)] at c
    replace H := f_iconst H k200_16 (v := 0) (by decide)
    replace H := f_iret H k200_17
    exact ⟨_, _, H, by rw [if_neg (by omega)], rfl⟩
  · rw [nxle (by omega) (by omega)] at c
    replace H := f_iconst H k200_12 (v := 1) (by decide)
    replace H := f_goto H k200_13 (t := 17) (by decide)
    replace H := f_iret H k200_17
    exact ⟨_, _, H, by rw [if_pos (by omega)], rfl⟩
/-- a corner e that is a chapel to which one can come from h -/
def isG (ch : Nat) (t : Mt) (U h e : Nat) : Prop := ch.testBit e = true ∧ t h e < U
theorem c_draws {m : xM} {C S w p h e : Nat} {A B Y : Nat → Nat} {t : Mt} (hr : rS m) (hT : mT m C S A B Y) (hw : m.1 326 24 = nI w) (hw2 : w < 65536) (hY : mY m C t) (ht : mle 100000 t) (hp : p < 4) (hh : m.1 326 (16 + 2 * p) = nI h) (hC : h < C) (he : e < C) : fC 202 [.ref 314, .ref 326, .int (nI p), .int (nI e)] m (fun rv m' => ∃ v : Int32, rv = some (.int v) ∧ ((v = -1000000 ∧ ¬ isG (chp A B S w C) t 100000 h e) ∨ (v ≠ -1000000 ∧ isG (chp A B S w C) t 100000 h e))) := by
  refine fC_of (by decide) (fun d n P H => ?_)
  have hC8 : C ≤ 8 := hT.2.2.1
  have hch : chp A B S w C < 256 := Nat.lt_of_lt_of_le (chp_lt C) (Nat.pow_le_pow_right (by omega) hC8 : (2 : Nat) ^ C ≤ 2 ^ 8)
  have c24 : (24 : Int32).toNatClampNeg = 24 := by decide
  have hid : ∀ n l4 l5, ¬ isG (chp A B S w C) t 100000 h e → xF 202 (xw d) P n 41 [(5, .int l5), (4, .int l4), (0, .ref 314), (1, .ref 326), (2, .int (nI p)), (3, .int (nI e))] [] m → ∃ rv m', P rv m' ∧ ∃ v : Int32, rv = some (.int v) ∧ ((v = -1000000 ∧ ¬ isG (chp A B S w C) t 100000 h e) ∨ (v ≠ -1000000 ∧ isG (chp A B S w C) t 100000 h e)) := by
    intro n l4 l5 hn H
    replace H := f_ldc_w H k202_41 (v := -1000000) (by decide +kernel)
    replace H := f_iret H k202_44
    exact ⟨_, _, H, _, rfl, Or.inl ⟨rfl, hn⟩⟩
  replace H := f_aload_n H k202_0 rfl
  replace H := f_aload_n H k202_1 rfl
  replace H := f_bipush H k202_2 (v := 24) (by decide)
  have Hob := f_iald H k202_4 (c := 208) (by decide)
  clear H
  obtain ⟨hb4, H⟩ := Hob
  rw [c24, hw] at H
  obtain ⟨rv, m3, ⟨rfl, e3⟩, h9_5⟩ := f_inv H k202_5 (by decide +kernel) (as := [.int _]) (b := 314) (r := []) (by rfl) (c_mchapels hr hT hw2)
  replace H := h9_5
  rw [← e3] at H
  clear e3
  replace H := f_istore H k202_8 (l2 := [(4, .int (nI (chp A B S w C))), (0, .ref 314), (1, .ref 326), (2, .int (nI p)), (3, .int (nI e))]) rfl
  replace H := f_aload_n H k202_10 rfl
  replace H := f_bipush H k202_11 (v := 16) (by decide)
  replace H := f_iconst H k202_13 (v := 2) (by decide)
  replace H := f_iload_n H k202_14 rfl
  replace H := f_imul H k202_15
  replace H := f_iadd H k202_16
  replace H := f_iconst H k202_17 (v := 0) (by decide)
  replace H := f_iadd H k202_18
  have Hob := f_iald H k202_19 (c := 208) (by decide)
  clear H
  obtain ⟨hb19, H⟩ := Hob
  rw [show (2 : Int32) = nI 2 from rfl, nI_mul, show (16 : Int32) = nI 16 from rfl, r_ad, show (0 : Int32) = nI 0 from rfl, r_ad, nI_clamp (by omega), show m.1 326 (16 + 2 * p + 0) = nI h from hh] at H
  replace H := f_istore H k202_20 (l2 := [(5, .int (nI h)), (4, .int (nI (chp A B S w C))), (0, .ref 314), (1, .ref 326), (2, .int (nI p)), (3, .int (nI e))]) rfl
  replace H := f_iload H k202_22 rfl
  replace H := f_iload_n H k202_24 rfl
  obtain ⟨rv, m3, ⟨rfl, e3⟩, h9_25⟩ := f_ins H k202_25 (by decide +kernel) (as := [.int _, .int _]) (r := []) (by rfl) (c_hasN (by omega) (by omega))
  replace H := h9_25
  rw [← e3] at H
  clear e3
  cases hb : (chp A B S w C).testBit e with
  | false =>
    rw [hb] at H
    replace H := f_if_eq_t H k202_28 rfl (t := 41) (by decide)
    exact hid _ _ _ (fun q => absurd (hb.symm.trans q.1) (by decide)) H
  | true =>
    rw [hb] at H
    replace H := f_if_eq_f H k202_28 (by decide)
    replace H := f_aload_n H k202_31 rfl
    replace H := f_iload H k202_32 rfl
    replace H := f_iload_n H k202_34 rfl
    obtain ⟨rv, m3, ⟨rfl, e3⟩, h9_35⟩ := f_inv H k202_35 (by decide +kernel) (as := [.int _, .int _]) (b := 314) (r := []) (by rfl) (c_mcan hr hC8 hC he hY ht)
    replace H := h9_35
    rw [← e3] at H
    clear e3
    by_cases c1 : t h e < 100000
    · rw [if_pos c1] at H
      have hg : isG (chp A B S w C) t 100000 h e := ⟨hb, c1⟩
      have k99 : (-99 : Int32).toInt = -99 := by decide
      have kM : (-1000000 : Int32).toInt = -1000000 := by decide
      have tail : ∀ n l9 Ls m2, xF 202 (xw d) P n 135 ((9, .int l9) :: Ls) [] m2 → ∃ rv m', P rv m' ∧ ∃ v : Int32, rv = some (.int v) ∧ ((v = -1000000 ∧ ¬ isG (chp A B S w C) t 100000 h e) ∨ (v ≠ -1000000 ∧ isG (chp A B S w C) t 100000 h e)) := by
        intro n l9 Ls m2 H
        replace H := f_bipush H k202_135 (v := -99) (by decide)
        replace H := f_bipush H k202_137 (v := 99) (by decide)
        replace H := f_iload H k202_139 rfl
        obtain ⟨rv, m3, ⟨⟨z, rfl⟩, e3⟩, h9_141⟩ := f_ins H k202_141 (by decide +kernel) (as := [.int _, .int _]) (r := [.int _]) (by rfl) (c_minA)
        replace H := h9_141
        obtain ⟨rv, m4, ⟨⟨z2, rfl, hz2⟩, e4⟩, h9_144⟩ := f_ins H k202_144 (by decide +kernel) (as := [.int _, .int _]) (r := []) (by rfl) (c_maxA)
        replace H := h9_144
        replace H := f_iret H k202_147
        exact ⟨_, _, H, _, rfl, Or.inr ⟨fun q => by rw [q, k99, kM] at hz2; omega, hg⟩⟩
      replace H := f_if_ne_t H k202_38 (by decide) (t := 45) (by decide)
      replace H := f_aload_n H k202_45 rfl
      replace H := f_bipush H k202_46 (v := 16) (by decide)
      replace H := f_iconst H k202_48 (v := 2) (by decide)
      replace H := f_iload_n H k202_49 rfl
      replace H := f_imul H k202_50
      replace H := f_iadd H k202_51
      replace H := f_iconst H k202_52 (v := 1) (by decide)
      replace H := f_iadd H k202_53
      have Hob := f_iald H k202_54 (c := 208) (by decide)
      clear H
      obtain ⟨hb54, H⟩ := Hob
      replace H := f_istore H k202_55 (l2 := [(6, .int _), (5, .int (nI h)), (4, .int (nI (chp A B S w C))), (0, .ref 314), (1, .ref 326), (2, .int (nI p)), (3, .int (nI e))]) rfl
      replace H := f_aload_n H k202_57 rfl
      replace H := f_iconst H k202_58 (v := 2) (by decide)
      replace H := f_iload_n H k202_59 rfl
      replace H := f_imul H k202_60
      replace H := f_iconst H k202_61 (v := 0) (by decide)
      replace H := f_iadd H k202_62
      have Hob := f_iald H k202_63 (c := 208) (by decide)
      clear H
      obtain ⟨hb63, H⟩ := Hob
      replace H := f_istore H k202_64 (l2 := [(7, .int _), (6, .int _), (5, .int (nI h)), (4, .int (nI (chp A B S w C))), (0, .ref 314), (1, .ref 326), (2, .int (nI p)), (3, .int (nI e))]) rfl
      replace H := f_aload_n H k202_66 rfl
      replace H := f_iconst H k202_67 (v := 2) (by decide)
      replace H := f_iload_n H k202_68 rfl
      replace H := f_imul H k202_69
      replace H := f_iconst H k202_70 (v := 1) (by decide)
      replace H := f_iadd H k202_71
      have Hob := f_iald H k202_72 (c := 208) (by decide)
      clear H
      obtain ⟨hb72, H⟩ := Hob
      replace H := f_istore H k202_73 (l2 := [(8, .int _), (7, .int _), (6, .int _), (5, .int (nI h)), (4, .int (nI (chp A B S w C))), (0, .ref 314), (1, .ref 326), (2, .int (nI p)), (3, .int (nI e))]) rfl
      replace H := f_iload H k202_75 rfl
      replace H := f_iload H k202_77 rfl
      replace H := f_iconst H k202_79 (v := 2) (by decide)
      replace H := f_idiv H k202_80
      replace H := f_iadd H k202_81
      replace H := f_iconst H k202_82 (v := 2) (by decide)
      replace H := f_iload H k202_83 rfl
      replace H := f_imul H k202_85
      replace H := f_iadd H k202_86
      replace H := f_aload_n H k202_87 rfl
      replace H := f_iload H k202_88 rfl
      replace H := f_iload_n H k202_90 rfl
      obtain ⟨rv, m3, ⟨rfl, e3⟩, h9_91⟩ := f_inv H k202_91 (by decide +kernel) (as := [.int _, .int _]) (b := 314) (r := [.int _]) (by rfl) (c_far0 hr hC8 hC he hY)
      replace H := h9_91
      rw [← e3] at H
      clear e3
      replace H := f_iconst H k202_94 (v := 3) (by decide)
      replace H := f_idiv H k202_95
      replace H := f_isub H k202_96
      replace H := f_istore H k202_97 (l2 := [(9, .int _), (8, .int _), (7, .int _), (6, .int _), (5, .int (nI h)), (4, .int (nI (chp A B S w C))), (0, .ref 314), (1, .ref 326), (2, .int (nI p)), (3, .int (nI e))]) rfl
      replace H := f_aload_n H k202_99 rfl
      replace H := f_gi H k202_100 (ci := 12) (f := 34) (by decide +kernel) (by decide)
      replace H := f_iconst H k202_103 (v := -1) (by decide)
      have Hbr := f_icmp_eq H k202_104 (t := 135) (by decide)
      clear H
      rcases Hbr with ⟨c, H⟩ | ⟨c, H⟩
      · exact tail _ _ _ _ H
      · replace H := f_aload_n H k202_107 rfl
        replace H := f_aload_n H k202_108 rfl
        replace H := f_iload H k202_109 rfl
        replace H := f_iload_n H k202_111 rfl
        obtain ⟨rv, m3, ⟨rfl, e3⟩, h9_112⟩ := f_inv H k202_112 (by decide +kernel) (as := [.int _, .int _]) (b := 314) (r := [.ref 314]) (by rfl) (c_far0 hr hC8 hC he hY)
        replace H := h9_112
        rw [← e3] at H
        clear e3
        replace H := f_iload H k202_115 rfl
        replace H := f_iload H k202_117 rfl
        replace H := f_iload H k202_119 rfl
        replace H := f_iload H k202_121 rfl
        obtain ⟨rv, m3, ⟨rfl, e3⟩, h9_123⟩ := f_ins H k202_123 (by decide +kernel) (as := [.int _]) (r := [.int _, .int _, .int _, .int _, .ref 314]) (by rfl) (c_bitCount (v := chp A B S w C) (by omega))
        replace H := h9_123
        rw [← e3] at H
        clear e3
        replace H := f_aload_n H k202_126 rfl
        replace H := f_bipush H k202_127 (v := 26) (by decide)
        have Hob := f_iald H k202_129 (c := 208) (by decide)
        clear H
        obtain ⟨hb129, H⟩ := Hob
        obtain ⟨rv, m3, ⟨z, rfl⟩, h9_130⟩ := f_inv H k202_130 (by decide +kernel) (as := [.int _, .int _, .int _, .int _, .int _, .int _]) (b := 314) (r := []) (by rfl) (fC_int (j := 201) (by decide) (by decide +kernel))
        replace H := h9_130
        replace H := f_istore H k202_133 (l2 := [(9, .int _), (8, .int _), (7, .int _), (6, .int _), (5, .int (nI h)), (4, .int (nI (chp A B S w C))), (0, .ref 314), (1, .ref 326), (2, .int (nI p)), (3, .int (nI e))]) rfl
        exact tail _ _ _ _ H
    · rw [if_neg c1] at H
      replace H := f_if_ne_f H k202_38 rfl
      exact hid _ _ _ (fun q => c1 q.2) H
theorem k203_0 : lkc 0 (kcode 203) = some (.iconst (-1)) := by decide +kernel
theorem k203_1 : lkc 1 (kcode 203) = some (.istore_n 3) := by decide +kernel
theorem k203_2 : lkc 2 (kcode 203) = some (.iconst 0) := by decide +kernel
theorem k203_3 : lkc 3 (kcode 203) = some (.istore 4) := by decide +kernel
theorem k203_5 : lkc 5 (kcode 203) = some (.iconst 0) := by decide +kernel
theorem k203_6 : lkc 6 (kcode 203) = some (.istore 5) := by decide +kernel
theorem k203_8 : lkc 8 (kcode 203) = some (.iload 5) := by decide +kernel
theorem k203_10 : lkc 10 (kcode 203) = some (.aload_n 0) := by decide +kernel
theorem k203_11 : lkc 11 (kcode 203) = some (.getfield 280) := by decide +kernel
theorem k203_14 : lkc 14 (kcode 203) = some (.if_icmp .ge 49) := by decide +kernel
theorem k203_17 : lkc 17 (kcode 203) = some (.aload_n 0) := by decide +kernel
theorem k203_18 : lkc 18 (kcode 203) = some (.aload_n 1) := by decide +kernel
theorem k203_19 : lkc 19 (kcode 203) = some (.iload_n 2) := by decide +kernel
theorem k203_20 : lkc 20 (kcode 203) = some (.iload 5) := by decide +kernel
theorem k203_22 : lkc 22 (kcode 203) = some (.invokevirtual 337) := by decide +kernel
theorem k203_25 : lkc 25 (kcode 203) = some (.istore 6) := by decide +kernel
theorem k203_27 : lkc 27 (kcode 203) = some (.iload 6) := by decide +kernel
theorem k203_29 : lkc 29 (kcode 203) = some (.ldc_w 325) := by decide +kernel
theorem k203_32 : lkc 32 (kcode 203) = some (.if_icmp .eq 25) := by decide +kernel
theorem k203_35 : lkc 35 (kcode 203) = some (.iload_n 3) := by decide +kernel
theorem k203_36 : lkc 36 (kcode 203) = some (.iconst (-1)) := by decide +kernel
theorem k203_37 : lkc 37 (kcode 203) = some (.if_icmp .eq 13) := by decide +kernel
theorem k203_40 : lkc 40 (kcode 203) = some (.iload 6) := by decide +kernel
theorem k203_42 : lkc 42 (kcode 203) = some (.iload 4) := by decide +kernel
theorem k203_44 : lkc 44 (kcode 203) = some (.if_icmp .gt 6) := by decide +kernel
theorem k203_47 : lkc 47 (kcode 203) = some (.goto 10) := by decide +kernel
theorem k203_50 : lkc 50 (kcode 203) = some (.iload 5) := by decide +kernel
theorem k203_52 : lkc 52 (kcode 203) = some (.istore_n 3) := by decide +kernel
theorem k203_53 : lkc 53 (kcode 203) = some (.iload 6) := by decide +kernel
theorem k203_55 : lkc 55 (kcode 203) = some (.istore 4) := by decide +kernel
theorem k203_57 : lkc 57 (kcode 203) = some (.iinc 5 1) := by decide +kernel
theorem k203_60 : lkc 60 (kcode 203) = some (.goto (-52)) := by decide +kernel
theorem k203_63 : lkc 63 (kcode 203) = some (.iload_n 3) := by decide +kernel
theorem k203_64 : lkc 64 (kcode 203) = some (.ireturn) := by decide +kernel
/-! forward: whether one has a goal, the reference -/
theorem aI_n {k L : Nat} (h : k ≤ L) (hL : L < 2147483648) : aH (fun _ => 0) (.int (nI k)) (aI 0 (L : Int)) := Or.inr (Or.inl ⟨rfl, nI k, rfl, ⟨by rw [nI_toInt (by omega)]; show (0 : Int) ≤ _; omega, by rw [nI_toInt (by omega)]; show (k : Int) ≤ (L : Int); omega⟩, trivial⟩)
def fr63 (m m2 : xM) : Prop := ∀ a i, a < 314 ∨ a = 315 ∨ a = 320 ∨ a = 322 ∨ a = 324 ∨ a = 325 ∨ a = 326 ∨ a = 328 ∨ (331 ≤ a ∧ a ≤ 333) ∨ (a = 314 ∧ ¬ (8 ≤ i ∧ i < 18)) → m2.1 a i = m.1 a i
theorem fr63_t {m m1 m2 : xM} (h : fr63 m m1) (g : fr63 m1 m2) : fr63 m m2 := fun a i q => (g a i q).trans (h a i q)
theorem r63_f {m m2 : xM} {vs : List Value} {rv : Option Value} (h : cPo tS tR r63c m vs rv m2) : fr63 m m2 := fun a i hq => h.2.1 a i (wm_f (fun q hm z => by
  have h9 : ∀ q ∈ r63c.2.2.2.2, (q.1 = 314 ∧ 8 ≤ q.2.1 ∧ q.2.2 ≤ 18) ∨ q.1 = 318 ∨ q.1 = 330 := by decide
  have := h9 q hm
  omega))
theorem r63_j {m m2 : xM} {vs : List Value} {rv : Option Value} (hj : jM m) (h : cPo tS tR r63c m vs rv m2) : jM m2 := jM_st (c := (0, [], [], [], r63c.2.2.2.2)) (by decide) m m2 h.2.1 hj
theorem mT_63 {m m2 : xM} {C S : Nat} {A B Y : Nat → Nat} (hT : mT m C S A B Y) (h : fr63 m m2) : mT m2 C S A B Y := mT_f hT (fun i => ⟨⟨h _ _ (by omega), h _ _ (by omega)⟩, h _ _ (by omega)⟩)
theorem mY_63 {m m2 : xM} {C : Nat} {t : Mt} (hY : mY m C t) (h : fr63 m m2) : mY m2 C t := fun a b ha hb => by rw [h _ _ (by omega)]; exact hY a b ha hb
set_option maxHeartbeats 2000000 in
theorem c_goes {m : xM} {C S w p h : Nat} {A B Y : Nat → Nat} {t : Mt} (hI : gI tS tR m) (hj : jM m) (hT : mT m C S A B Y) (hw : m.1 326 24 = nI w) (hw2 : w < 65536) (hY : mY m C t) (ht : mle 100000 t) (hp : p < 4) (hh : m.1 326 (16 + 2 * p) = nI h) (hC : h < C) : fC 203 [.ref 314, .ref 326, .int (nI p)] m (fun rv m' => gI tS tR m' ∧ jM m' ∧ fr63 m m' ∧ ((rv = some (.int (-1)) ∧ ∀ e, e < C → ¬ isG (chp A B S w C) t 100000 h e) ∨ ∃ e, e < C ∧ rv = some (.int (nI e)) ∧ isG (chp A B S w C) t 100000 h e)) := by
  refine fC_of (by decide) (fun d n P H => ?_)
  have hC8 : C ≤ 8 := hT.2.2.1
  have lp : ∀ n k b mo v m2, k ≤ C → gI tS tR m2 → jM m2 → fr63 m m2 → ((b = -1 ∧ ∀ e, e < k → ¬ isG (chp A B S w C) t 100000 h e) ∨ ∃ e, e < C ∧ b = nI e ∧ isG (chp A B S w C) t 100000 h e) → xF 203 (xw d) P n 8 [(5, .int (nI k)), (3, .int b), (4, .int mo), (6, .int v), (0, .ref 314), (1, .ref 326), (2, .int (nI p))] [] m2 → ∃ rv m', P rv m' ∧ gI tS tR m' ∧ jM m' ∧ fr63 m m' ∧ ((rv = some (.int (-1)) ∧ ∀ e, e < C → ¬ isG (chp A B S w C) t 100000 h e) ∨ ∃ e, e < C ∧ rv = some (.int (nI e)) ∧ isG (chp A B S w C) t 100000 h e) := by
    intro n
    induction n with
    | zero => exact fun k b mo v m2 _ _ _ _ _ H => (xF_0 H).elim
    | succ n ih =>
      intro k b mo v m2 hk hI2 hj2 hf hb H
      have hr : rS m2 := hI2.2
      have hT2 := mT_63 hT hf
      have hY2 := mY_63 hY hf
      have hw3 : m2.1 326 24 = nI w := by rw [hf 326 24 (by omega)]; exact hw
      have hh2 : m2.1 326 (16 + 2 * p) = nI h := by rw [hf 326 _ (by omega)]; exact hh
      replace H := f1_iload H k203_8 rfl
      replace H := f_aload_n H k203_10 rfl
      replace H := f_gi H k203_11 (ci := 12) (f := 25) (by decide +kernel) (by decide)
      rw [hT2.1] at H
      have Hbr := f_icmp_ge H k203_14 (t := 63) (by decide)
      clear H
      rcases Hbr with ⟨c0, H⟩ | ⟨c0, H⟩
      · rw [nxle (by omega) (by omega)] at c0
        have ek : k = C := by omega
        subst ek
        replace H := f_iload_n H k203_63 rfl
        replace H := f_iret H k203_64
        refine ⟨_, _, H, hI2, hj2, hf, ?_⟩
        rcases hb with ⟨rfl, h2⟩ | ⟨e, h1, rfl, h2⟩
        · exact Or.inl ⟨rfl, h2⟩
        · exact Or.inr ⟨e, h1, rfl, h2⟩
      · rw [nxle (by omega) (by omega)] at c0
        replace H := f_aload_n H k203_17 rfl
        replace H := f_aload_n H k203_18 rfl
        replace H := f_iload_n H k203_19 rfl
        replace H := f_iload H k203_20 rfl
        obtain ⟨rv, m3, ⟨⟨v9, rfl, hv⟩, hc⟩, h9_22⟩ := f_inv H k203_22 (by decide +kernel) (as := [.ref 326, .int _, .int _]) (b := 314) (r := []) (by rfl) (fC_two (c_draws hr hT2 hw3 hw2 hY2 ht hp hh2 hC (by omega)) (fC_vC r63 hI2 hj2 ⟨aR_a 314, aR_a 326, aI_n (L := 3) (by omega) (by omega), aI_n (L := 7) (by omega) (by omega), trivial⟩ gF_nil))
        replace H := h9_22
        have hI3 := hc.1
        have hj3 := r63_j hj2 hc
        have hf3 := fr63_t hf (r63_f hc)
        clear hc
        have nx : ∀ b2 mo2, ((b2 = -1 ∧ ∀ e, e < k + 1 → ¬ isG (chp A B S w C) t 100000 h e) ∨ ∃ e, e < C ∧ b2 = nI e ∧ isG (chp A B S w C) t 100000 h e) → xF 203 (xw d) P n 57 [(5, .int (nI k)), (3, .int b2), (4, .int mo2), (6, .int v9), (0, .ref 314), (1, .ref 326), (2, .int (nI p))] [] m3 → ∃ rv m', P rv m' ∧ gI tS tR m' ∧ jM m' ∧ fr63 m m' ∧ ((rv = some (.int (-1)) ∧ ∀ e, e < C → ¬ isG (chp A B S w C) t 100000 h e) ∨ ∃ e, e < C ∧ rv = some (.int (nI e)) ∧ isG (chp A B S w C) t 100000 h e) := by
          intro b2 mo2 hb2 H
          replace H := f_iinc H k203_57 rfl (l2 := [(5, .int (nI k + 1)), (3, .int b2), (4, .int mo2), (6, .int v9), (0, .ref 314), (1, .ref 326), (2, .int (nI p))]) rfl
          replace H := f_goto H k203_60 (t := 8) (by decide)
          rw [nI_s] at H
          exact ih (k + 1) b2 mo2 v9 m3 (by omega) hI3 hj3 hf3 hb2 H
        have tk : ∀ mo2 v2, (v9 ≠ -1000000 ∧ isG (chp A B S w C) t 100000 h k) → xF 203 (xw d) P n 50 [(6, .int v9), (5, .int (nI k)), (3, .int b), (4, .int mo2), (0, .ref 314), (1, .ref 326), (2, .int (nI p))] v2 m3 → v2 = [] → ∃ rv m', P rv m' ∧ gI tS tR m' ∧ jM m' ∧ fr63 m m' ∧ ((rv = some (.int (-1)) ∧ ∀ e, e < C → ¬ isG (chp A B S w C) t 100000 h e) ∨ ∃ e, e < C ∧ rv = some (.int (nI e)) ∧ isG (chp A B S w C) t 100000 h e) := by
          intro mo2 v2 h9 H e2
          subst e2
          replace H := f_iload H k203_50 rfl
          replace H := f_istore_n H k203_52 (l2 := [(3, .int (nI k)), (6, .int v9), (5, .int (nI k)), (4, .int mo2), (0, .ref 314), (1, .ref 326), (2, .int (nI p))]) rfl
          replace H := f_iload H k203_53 rfl
          replace H := f_istore H k203_55 (l2 := [(4, .int v9), (3, .int (nI k)), (6, .int v9), (5, .int (nI k)), (0, .ref 314), (1, .ref 326), (2, .int (nI p))]) rfl
          replace H := f_ext H (l' := [(5, .int (nI k)), (3, .int (nI k)), (4, .int v9), (6, .int v9), (0, .ref 314), (1, .ref 326), (2, .int (nI p))]) (lE_cons rfl (lE_cons rfl (lE_cons rfl (lE_cons rfl (lE_cons rfl (lE_cons rfl (lE_cons rfl (lE_nil)))))))) rfl rfl
          exact nx _ _ (Or.inr ⟨k, by omega, rfl, h9.2⟩) H
        replace H := f_istore H k203_25 (l2 := [(6, .int _), (5, .int (nI k)), (3, .int b), (4, .int mo), (0, .ref 314), (1, .ref 326), (2, .int (nI p))]) rfl
        replace H := f_iload H k203_27 rfl
        replace H := f_ldc_w H k203_29 (v := -1000000) (by decide +kernel)
        have Hbr := f_icmp_eq H k203_32 (t := 57) (by decide)
        clear H
        rcases Hbr with ⟨c1, H⟩ | ⟨c1, H⟩
        · have hn : ¬ isG (chp A B S w C) t 100000 h k := by
            rcases hv with ⟨-, q⟩ | ⟨q, -⟩
            · exact q
            · exact absurd c1 q
          replace H := f_ext H (l' := [(5, .int (nI k)), (3, .int b), (4, .int mo), (6, .int v9), (0, .ref 314), (1, .ref 326), (2, .int (nI p))]) (lE_cons rfl (lE_cons rfl (lE_cons rfl (lE_cons rfl (lE_cons rfl (lE_cons rfl (lE_cons rfl (lE_nil)))))))) rfl rfl
          refine nx _ _ ?_ H
          rcases hb with ⟨q1, q2⟩ | q
          · refine Or.inl ⟨q1, fun e he => ?_⟩
            by_cases ee : e = k
            · rw [ee]; exact hn
            · exact q2 e (by omega)
          · exact Or.inr q
        · have hg : v9 ≠ -1000000 ∧ isG (chp A B S w C) t 100000 h k := by
            rcases hv with ⟨q, -⟩ | q
            · exact absurd q c1
            · exact q
          replace H := f_iload_n H k203_35 rfl
          replace H := f_iconst H k203_36 (v := -1) (by decide)
          have Hbr := f_icmp_eq H k203_37 (t := 50) (by decide)
          clear H
          rcases Hbr with ⟨c2, H⟩ | ⟨c2, H⟩
          · exact tk _ _ hg H rfl
          · replace H := f_iload H k203_40 rfl
            replace H := f_iload H k203_42 rfl
            have Hbr := f_icmp_gt H k203_44 (t := 50) (by decide)
            clear H
            rcases Hbr with ⟨c3, H⟩ | ⟨c3, H⟩
            · exact tk _ _ hg H rfl
            · replace H := f_goto H k203_47 (t := 57) (by decide)
              replace H := f_ext H (l' := [(5, .int (nI k)), (3, .int b), (4, .int mo), (6, .int v9), (0, .ref 314), (1, .ref 326), (2, .int (nI p))]) (lE_cons rfl (lE_cons rfl (lE_cons rfl (lE_cons rfl (lE_cons rfl (lE_cons rfl (lE_cons rfl (lE_nil)))))))) rfl rfl
              refine nx _ _ ?_ H
              rcases hb with ⟨q1, q2⟩ | q
              · exact absurd q1 c2
              · exact Or.inr q
  replace H := f_iconst H k203_0 (v := -1) (by decide)
  replace H := f_istore_n H k203_1 (l2 := [(3, .int (-1)), (0, .ref 314), (1, .ref 326), (2, .int (nI p))]) rfl
  replace H := f_iconst H k203_2 (v := 0) (by decide)
  replace H := f_istore H k203_3 (l2 := [(4, .int 0), (3, .int (-1)), (0, .ref 314), (1, .ref 326), (2, .int (nI p))]) rfl
  replace H := f_iconst H k203_5 (v := 0) (by decide)
  replace H := f_istore H k203_6 (l2 := [(5, .int 0), (4, .int 0), (3, .int (-1)), (0, .ref 314), (1, .ref 326), (2, .int (nI p))]) rfl
  replace H := f_ext H (l' := [(5, .int 0), (3, .int (-1)), (4, .int 0), (6, .int 0), (0, .ref 314), (1, .ref 326), (2, .int (nI p))]) (lE_cons rfl (lE_cons rfl (lE_cons rfl (lE_cons rfl (lE_cons rfl (lE_cons rfl (lE_nil))))))) rfl rfl
  exact lp n 0 (-1) 0 0 m (Nat.zero_le _) hI hj (fun _ _ _ => rfl) (Or.inl ⟨rfl, fun e he => absurd he (Nat.not_lt_zero _)⟩) H
theorem k6_0 : lkc 0 (kcode 6) = some (.aload_n 0) := by decide +kernel
theorem k6_1 : lkc 1 (kcode 6) = some (.getfield 38) := by decide +kernel
theorem k6_4 : lkc 4 (kcode 6) = some (.iload_n 3) := by decide +kernel
theorem k6_5 : lkc 5 (kcode 6) = some (.ishr) := by decide +kernel
theorem k6_6 : lkc 6 (kcode 6) = some (.iconst 1) := by decide +kernel
theorem k6_7 : lkc 7 (kcode 6) = some (.iand) := by decide +kernel
theorem k6_8 : lkc 8 (kcode 6) = some (.ifCond .eq 25) := by decide +kernel
theorem k6_11 : lkc 11 (kcode 6) = some (.aload_n 0) := by decide +kernel
theorem k6_12 : lkc 12 (kcode 6) = some (.getfield 15) := by decide +kernel
theorem k6_15 : lkc 15 (kcode 6) = some (.aload_n 1) := by decide +kernel
theorem k6_16 : lkc 16 (kcode 6) = some (.getfield 47) := by decide +kernel
theorem k6_19 : lkc 19 (kcode 6) = some (.iload_n 2) := by decide +kernel
theorem k6_20 : lkc 20 (kcode 6) = some (.iaload) := by decide +kernel
theorem k6_21 : lkc 21 (kcode 6) = some (.iload_n 3) := by decide +kernel
theorem k6_22 : lkc 22 (kcode 6) = some (.invokevirtual 51) := by decide +kernel
theorem k6_25 : lkc 25 (kcode 6) = some (.iconst (-1)) := by decide +kernel
theorem k6_26 : lkc 26 (kcode 6) = some (.if_icmp .eq 7) := by decide +kernel
theorem k6_29 : lkc 29 (kcode 6) = some (.iconst 1) := by decide +kernel
theorem k6_30 : lkc 30 (kcode 6) = some (.goto 4) := by decide +kernel
theorem k6_33 : lkc 33 (kcode 6) = some (.iconst 0) := by decide +kernel
theorem k6_34 : lkc 34 (kcode 6) = some (.ireturn) := by decide +kernel
theorem k85_0 : lkc 0 (kcode 85) = some (.aload_n 0) := by decide +kernel
theorem k85_1 : lkc 1 (kcode 85) = some (.getfield 16) := by decide +kernel
theorem k85_4 : lkc 4 (kcode 85) = some (.iload_n 1) := by decide +kernel
theorem k85_5 : lkc 5 (kcode 85) = some (.aaload) := by decide +kernel
theorem k85_6 : lkc 6 (kcode 85) = some (.iload_n 2) := by decide +kernel
theorem k85_7 : lkc 7 (kcode 85) = some (.iaload) := by decide +kernel
theorem k85_8 : lkc 8 (kcode 85) = some (.ldc 30) := by decide +kernel
theorem k85_10 : lkc 10 (kcode 85) = some (.if_icmp .lt 7) := by decide +kernel
theorem k85_13 : lkc 13 (kcode 85) = some (.iconst (-1)) := by decide +kernel
theorem k85_14 : lkc 14 (kcode 85) = some (.goto 14) := by decide +kernel
theorem k85_17 : lkc 17 (kcode 85) = some (.aload_n 0) := by decide +kernel
theorem k85_18 : lkc 18 (kcode 85) = some (.getfield 16) := by decide +kernel
theorem k85_21 : lkc 21 (kcode 85) = some (.iload_n 1) := by decide +kernel
theorem k85_22 : lkc 22 (kcode 85) = some (.aaload) := by decide +kernel
theorem k85_23 : lkc 23 (kcode 85) = some (.iload_n 2) := by decide +kernel
theorem k85_24 : lkc 24 (kcode 85) = some (.iaload) := by decide +kernel
theorem k85_25 : lkc 25 (kcode 85) = some (.bipush 16) := by decide +kernel
theorem k85_27 : lkc 27 (kcode 85) = some (.idiv) := by decide +kernel
theorem k85_28 : lkc 28 (kcode 85) = some (.ireturn) := by decide +kernel
/-! forward: how a corner draws one (the class): hidden or not, and whether one has a goal -/
theorem nI_div {a b : Nat} (ha : a < 2147483648) (hb : b < 2147483648) : nI a / nI b = nI (a / b) := by
  apply Int32.toInt_inj.mp
  have h := Nat.div_le_self a b
  rw [Int32.toInt_div, nI_toInt ha, nI_toInt hb, nI_toInt (by omega), ← Int.ofNat_tdiv]
  generalize a / b = q at h ⊢
  exact Int.bmod_eq_of_le (by omega) (by omega)
theorem i_rng {x : Int32} {L : Nat} (h0 : 0 ≤ x.toInt) (h1 : x.toInt ≤ (L : Int)) (hL : L < 2147483648) : ∃ k, k ≤ L ∧ x = nI k := ⟨x.toInt.toNat, by omega, Int32.toInt_inj.mp (by rw [nI_toInt (by omega)]; omega)⟩
theorem c_yardsB {m : xM} {C a b : Nat} {T c : Mt} (hr : rS m) (hC : C ≤ 8) (ha : a < C) (hb : b < C) (hY : mX m C T c) (ht : mle 1000000 c) : fC 85 [.ref 63, .int (nI a), .int (nI b)] m (fun rv m' => rv = some (.int (if c a b < 1000000 then nI (c a b / 16) else -1)) ∧ m = m') := by
  refine fC_of (by decide) (fun d n P H => ?_)
  have h1 := ht a b
  have y1 := (hY.2 a b ha hb).2
  obtain ⟨Uy, Ut⟩ := rx_73 ⟨a, by omega⟩
  replace Uy : lay (74 + a) = (0, 0, 8) := Uy
  replace Ut : tR 73 a = some (74 + a) := Ut
  obtain ⟨U, hU⟩ : ∃ R, R = 74 + a := ⟨_, rfl⟩
  rw [← hU] at Uy Ut y1
  replace H := f_aload_n H k85_0 rfl
  replace H := f_gr H k85_1 (ci := 10) (f := 1) (x := 73) (by decide +kernel) (by decide) (hr 63 1 73 rfl)
  replace H := f_iload_n H k85_4 rfl
  have Hob := f_aald H k85_5 (x := 6) (c := 8) (v := .ref U) (by decide) ((by rw [nI_clamp (by omega), hr 73 a U Ut]; rfl))
  clear H
  obtain ⟨hb5, H⟩ := Hob
  replace H := f_iload_n H k85_6 rfl
  have Hob := f_iald H k85_7 (c := 8) Uy
  clear H
  obtain ⟨hb7, H⟩ := Hob
  replace H := f_ldc_i H k85_8 (v := 1000000) (by decide +kernel)
  rw [nI_clamp (by omega), y1, show (1000000 : Int32) = nI 1000000 from rfl] at H
  have Hbr := f_icmp_lt H k85_10 (t := 17) (by decide)
  clear H
  rcases Hbr with ⟨c_1, H⟩ | ⟨c_1, H⟩
  · rw [nxlt (by omega) (by omega)] at c_1
    replace H := f_aload_n H k85_17 rfl
    replace H := f_gr H k85_18 (ci := 10) (f := 1) (x := 73) (by decide +kernel) (by decide) (hr 63 1 73 rfl)
    replace H := f_iload_n H k85_21 rfl
    have Hob := f_aald H k85_22 (x := 6) (c := 8) (v := .ref U) (by decide) ((by rw [nI_clamp (by omega), hr 73 a U Ut]; rfl))
    clear H
    obtain ⟨hb22, H⟩ := Hob
    replace H := f_iload_n H k85_23 rfl
    have Hob := f_iald H k85_24 (c := 8) Uy
    clear H
    obtain ⟨hb24, H⟩ := Hob
    replace H := f_bipush H k85_25 (v := 16) (by decide)
    replace H := f_idiv H k85_27
    rw [nI_clamp (by omega), y1, show (16 : Int32) = nI 16 from rfl, nI_div (by omega) (by omega)] at H
    replace H := f_iret H k85_28
    exact ⟨_, _, H, by rw [if_pos c_1], rfl⟩
  · rw [nxlt (by omega) (by omega)] at c_1
    replace H := f_iconst H k85_13 (v := -1) (by decide)
    replace H := f_goto H k85_14 (t := 28) (by decide)
    replace H := f_iret H k85_28
    exact ⟨_, _, H, by rw [if_neg c_1], rfl⟩
theorem c_xcan {m : xM} {C S w p h e : Nat} {A B : Nat → Nat} {T c : Mt} (hr : rS m) (hC : C ≤ 8) (h3 : m.1 83 3 = nI (chp A B S w C)) (hY : mX m C T c) (ht : mle 1000000 c) (hp : p < 4) (hh : m.1 92 p = nI h) (hhC : h < C) (he : e < C) : fC 6 [.ref 83, .ref 89, .int (nI p), .int (nI e)] m (fun rv m' => ((isG (chp A B S w C) c 1000000 h e ∧ rv = some (.int 1)) ∨ (¬ isG (chp A B S w C) c 1000000 h e ∧ rv = some (.int 0))) ∧ m = m') := by
  refine fC_of (by decide) (fun d n P H => ?_)
  have h1 := ht h e
  have hch : chp A B S w C < 256 := Nat.lt_of_lt_of_le (chp_lt C) (Nat.pow_le_pow_right (by omega) hC : (2 : Nat) ^ C ≤ 2 ^ 8)
  have no : ∀ n, ¬ isG (chp A B S w C) c 1000000 h e → xF 6 (xw d) P n 33 [(0, .ref 83), (1, .ref 89), (2, .int (nI p)), (3, .int (nI e))] [] m → ∃ rv m', P rv m' ∧ ((isG (chp A B S w C) c 1000000 h e ∧ rv = some (.int 1)) ∨ (¬ isG (chp A B S w C) c 1000000 h e ∧ rv = some (.int 0))) ∧ m = m' := by
    intro n hn H
    replace H := f_iconst H k6_33 (v := 0) (by decide)
    replace H := f_iret H k6_34
    exact ⟨_, _, H, Or.inr ⟨hn, rfl⟩, rfl⟩
  replace H := f_aload_n H k6_0 rfl
  replace H := f_gi H k6_1 (ci := 1) (f := 3) (by decide +kernel) (by decide)
  replace H := f_iload_n H k6_4 rfl
  replace H := f_ishr H k6_5
  replace H := f_iconst H k6_6 (v := 1) (by decide)
  replace H := f_iand H k6_7
  rw [h3, has_n (by omega) (by omega)] at H
  cases hb : (chp A B S w C).testBit e with
  | false =>
    rw [hb] at H
    replace H := f_if_eq_t H k6_8 rfl (t := 33) (by decide)
    exact no _ (fun q => absurd (hb.symm.trans q.1) (by decide)) H
  | true =>
    rw [hb] at H
    replace H := f_if_eq_f H k6_8 (by decide)
    replace H := f_aload_n H k6_11 rfl
    replace H := f_gr H k6_12 (ci := 1) (f := 1) (x := 63) (by decide +kernel) (by decide) (hr 83 1 63 rfl)
    replace H := f_aload_n H k6_15 rfl
    replace H := f_gr H k6_16 (ci := 6) (f := 5) (x := 92) (by decide +kernel) (by decide) (hr 89 5 92 rfl)
    replace H := f_iload_n H k6_19 rfl
    have Hob := f_iald H k6_20 (c := 4) (by decide)
    clear H
    obtain ⟨hb20, H⟩ := Hob
    replace H := f_iload_n H k6_21 rfl
    rw [nI_clamp (by omega), hh] at H
    obtain ⟨rv, m3, ⟨rfl, e3⟩, h9_22⟩ := f_inv H k6_22 (by decide +kernel) (as := [.int _, .int _]) (b := 63) (r := []) (by rfl) (c_yardsB hr hC hhC he hY ht)
    replace H := h9_22
    rw [← e3] at H
    clear e3
    by_cases c1 : c h e < 1000000
    · rw [if_pos c1] at H
      have h16 : c h e / 16 ≤ 100000 := by omega
      have nn : ¬ nI (c h e / 16) = -1 := fun q => by
        have := congrArg Int32.toInt q
        rw [nI_toInt (by omega), show (-1 : Int32).toInt = -1 by decide] at this
        omega
      replace H := f_iconst H k6_25 (v := -1) (by decide)
      replace H := f_icmp_eq_f H k6_26 nn
      replace H := f_iconst H k6_29 (v := 1) (by decide)
      replace H := f_goto H k6_30 (t := 34) (by decide)
      replace H := f_iret H k6_34
      exact ⟨_, _, H, Or.inl ⟨⟨hb, c1⟩, rfl⟩, rfl⟩
    · rw [if_neg c1] at H
      replace H := f_iconst H k6_25 (v := -1) (by decide)
      replace H := f_icmp_eq_t H k6_26 rfl (t := 33) (by decide)
      exact no _ (fun q => c1 q.2) H
theorem k7_0 : lkc 0 (kcode 7) = some (.aload_n 0) := by decide +kernel
theorem k7_1 : lkc 1 (kcode 7) = some (.aload_n 1) := by decide +kernel
theorem k7_2 : lkc 2 (kcode 7) = some (.iload_n 2) := by decide +kernel
theorem k7_3 : lkc 3 (kcode 7) = some (.iload_n 3) := by decide +kernel
theorem k7_4 : lkc 4 (kcode 7) = some (.invokevirtual 55) := by decide +kernel
theorem k7_7 : lkc 7 (kcode 7) = some (.ifCond .ne 6) := by decide +kernel
theorem k7_10 : lkc 10 (kcode 7) = some (.ldc 59) := by decide +kernel
theorem k7_12 : lkc 12 (kcode 7) = some (.ireturn) := by decide +kernel
theorem k7_13 : lkc 13 (kcode 7) = some (.aload_n 0) := by decide +kernel
theorem k7_14 : lkc 14 (kcode 7) = some (.getfield 15) := by decide +kernel
theorem k7_17 : lkc 17 (kcode 7) = some (.aload_n 1) := by decide +kernel
theorem k7_18 : lkc 18 (kcode 7) = some (.getfield 47) := by decide +kernel
theorem k7_21 : lkc 21 (kcode 7) = some (.iload_n 2) := by decide +kernel
theorem k7_22 : lkc 22 (kcode 7) = some (.iaload) := by decide +kernel
theorem k7_23 : lkc 23 (kcode 7) = some (.iload_n 3) := by decide +kernel
theorem k7_24 : lkc 24 (kcode 7) = some (.invokevirtual 51) := by decide +kernel
theorem k7_27 : lkc 27 (kcode 7) = some (.istore 4) := by decide +kernel
theorem k7_29 : lkc 29 (kcode 7) = some (.aload_n 1) := by decide +kernel
theorem k7_30 : lkc 30 (kcode 7) = some (.getfield 60) := by decide +kernel
theorem k7_33 : lkc 33 (kcode 7) = some (.iload_n 3) := by decide +kernel
theorem k7_34 : lkc 34 (kcode 7) = some (.iaload) := by decide +kernel
theorem k7_35 : lkc 35 (kcode 7) = some (.istore 5) := by decide +kernel
theorem k7_37 : lkc 37 (kcode 7) = some (.aload_n 0) := by decide +kernel
theorem k7_38 : lkc 38 (kcode 7) = some (.getfield 19) := by decide +kernel
theorem k7_41 : lkc 41 (kcode 7) = some (.getfield 63) := by decide +kernel
theorem k7_44 : lkc 44 (kcode 7) = some (.iconst (-1)) := by decide +kernel
theorem k7_45 : lkc 45 (kcode 7) = some (.if_icmp .ne 29) := by decide +kernel
theorem k7_48 : lkc 48 (kcode 7) = some (.aload_n 1) := by decide +kernel
theorem k7_49 : lkc 49 (kcode 7) = some (.getfield 68) := by decide +kernel
theorem k7_52 : lkc 52 (kcode 7) = some (.iload_n 2) := by decide +kernel
theorem k7_53 : lkc 53 (kcode 7) = some (.iaload) := by decide +kernel
theorem k7_54 : lkc 54 (kcode 7) = some (.iload 5) := by decide +kernel
theorem k7_56 : lkc 56 (kcode 7) = some (.iconst 2) := by decide +kernel
theorem k7_57 : lkc 57 (kcode 7) = some (.idiv) := by decide +kernel
theorem k7_58 : lkc 58 (kcode 7) = some (.iadd) := by decide +kernel
theorem k7_59 : lkc 59 (kcode 7) = some (.iconst 2) := by decide +kernel
theorem k7_60 : lkc 60 (kcode 7) = some (.aload_n 1) := by decide +kernel
theorem k7_61 : lkc 61 (kcode 7) = some (.getfield 71) := by decide +kernel
theorem k7_64 : lkc 64 (kcode 7) = some (.iload_n 3) := by decide +kernel
theorem k7_65 : lkc 65 (kcode 7) = some (.iaload) := by decide +kernel
theorem k7_66 : lkc 66 (kcode 7) = some (.imul) := by decide +kernel
theorem k7_67 : lkc 67 (kcode 7) = some (.iadd) := by decide +kernel
theorem k7_68 : lkc 68 (kcode 7) = some (.iload 4) := by decide +kernel
theorem k7_70 : lkc 70 (kcode 7) = some (.iconst 3) := by decide +kernel
theorem k7_71 : lkc 71 (kcode 7) = some (.idiv) := by decide +kernel
theorem k7_72 : lkc 72 (kcode 7) = some (.isub) := by decide +kernel
theorem k7_73 : lkc 73 (kcode 7) = some (.ireturn) := by decide +kernel
theorem k7_74 : lkc 74 (kcode 7) = some (.aload_n 0) := by decide +kernel
theorem k7_75 : lkc 75 (kcode 7) = some (.getfield 19) := by decide +kernel
theorem k7_78 : lkc 78 (kcode 7) = some (.aload_n 0) := by decide +kernel
theorem k7_79 : lkc 79 (kcode 7) = some (.getfield 38) := by decide +kernel
theorem k7_82 : lkc 82 (kcode 7) = some (.invokestatic 74) := by decide +kernel
theorem k7_85 : lkc 85 (kcode 7) = some (.aload_n 1) := by decide +kernel
theorem k7_86 : lkc 86 (kcode 7) = some (.getfield 79) := by decide +kernel
theorem k7_89 : lkc 89 (kcode 7) = some (.invokevirtual 82) := by decide +kernel
theorem k7_92 : lkc 92 (kcode 7) = some (.aload_n 0) := by decide +kernel
theorem k7_93 : lkc 93 (kcode 7) = some (.getfield 19) := by decide +kernel
theorem k7_96 : lkc 96 (kcode 7) = some (.iload 4) := by decide +kernel
theorem k7_98 : lkc 98 (kcode 7) = some (.iload 5) := by decide +kernel
theorem k7_100 : lkc 100 (kcode 7) = some (.aload_n 1) := by decide +kernel
theorem k7_101 : lkc 101 (kcode 7) = some (.getfield 68) := by decide +kernel
theorem k7_104 : lkc 104 (kcode 7) = some (.iload_n 2) := by decide +kernel
theorem k7_105 : lkc 105 (kcode 7) = some (.iaload) := by decide +kernel
theorem k7_106 : lkc 106 (kcode 7) = some (.aload_n 1) := by decide +kernel
theorem k7_107 : lkc 107 (kcode 7) = some (.getfield 71) := by decide +kernel
theorem k7_110 : lkc 110 (kcode 7) = some (.iload_n 3) := by decide +kernel
theorem k7_111 : lkc 111 (kcode 7) = some (.iaload) := by decide +kernel
theorem k7_112 : lkc 112 (kcode 7) = some (.invokevirtual 86) := by decide +kernel
theorem k7_115 : lkc 115 (kcode 7) = some (.bipush (-99)) := by decide +kernel
theorem k7_117 : lkc 117 (kcode 7) = some (.bipush 99) := by decide +kernel
theorem k7_119 : lkc 119 (kcode 7) = some (.aload_n 0) := by decide +kernel
theorem k7_120 : lkc 120 (kcode 7) = some (.getfield 19) := by decide +kernel
theorem k7_123 : lkc 123 (kcode 7) = some (.invokevirtual 90) := by decide +kernel
theorem k7_126 : lkc 126 (kcode 7) = some (.invokestatic 94) := by decide +kernel
theorem k7_129 : lkc 129 (kcode 7) = some (.invokestatic 99) := by decide +kernel
theorem k7_132 : lkc 132 (kcode 7) = some (.ireturn) := by decide +kernel
theorem k8_0 : lkc 0 (kcode 8) = some (.iconst (-1)) := by decide +kernel
theorem k8_1 : lkc 1 (kcode 8) = some (.istore_n 3) := by decide +kernel
theorem k8_2 : lkc 2 (kcode 8) = some (.ldc 59) := by decide +kernel
theorem k8_4 : lkc 4 (kcode 8) = some (.istore 4) := by decide +kernel
theorem k8_6 : lkc 6 (kcode 8) = some (.iconst 0) := by decide +kernel
theorem k8_7 : lkc 7 (kcode 8) = some (.istore 5) := by decide +kernel
theorem k8_9 : lkc 9 (kcode 8) = some (.iload 5) := by decide +kernel
theorem k8_11 : lkc 11 (kcode 8) = some (.aload_n 0) := by decide +kernel
theorem k8_12 : lkc 12 (kcode 8) = some (.getfield 9) := by decide +kernel
theorem k8_15 : lkc 15 (kcode 8) = some (.getfield 102) := by decide +kernel
theorem k8_18 : lkc 18 (kcode 8) = some (.if_icmp .ge 33) := by decide +kernel
theorem k8_21 : lkc 21 (kcode 8) = some (.aload_n 0) := by decide +kernel
theorem k8_22 : lkc 22 (kcode 8) = some (.aload_n 1) := by decide +kernel
theorem k8_23 : lkc 23 (kcode 8) = some (.iload_n 2) := by decide +kernel
theorem k8_24 : lkc 24 (kcode 8) = some (.iload 5) := by decide +kernel
theorem k8_26 : lkc 26 (kcode 8) = some (.invokevirtual 105) := by decide +kernel
theorem k8_29 : lkc 29 (kcode 8) = some (.istore 6) := by decide +kernel
theorem k8_31 : lkc 31 (kcode 8) = some (.iload 6) := by decide +kernel
theorem k8_33 : lkc 33 (kcode 8) = some (.iload 4) := by decide +kernel
theorem k8_35 : lkc 35 (kcode 8) = some (.if_icmp .le 10) := by decide +kernel
theorem k8_38 : lkc 38 (kcode 8) = some (.iload 5) := by decide +kernel
theorem k8_40 : lkc 40 (kcode 8) = some (.istore_n 3) := by decide +kernel
theorem k8_41 : lkc 41 (kcode 8) = some (.iload 6) := by decide +kernel
theorem k8_43 : lkc 43 (kcode 8) = some (.istore 4) := by decide +kernel
theorem k8_45 : lkc 45 (kcode 8) = some (.iinc 5 1) := by decide +kernel
theorem k8_48 : lkc 48 (kcode 8) = some (.goto (-39)) := by decide +kernel
theorem k8_51 : lkc 51 (kcode 8) = some (.iload_n 3) := by decide +kernel
theorem k8_52 : lkc 52 (kcode 8) = some (.ireturn) := by decide +kernel
/-! forward: whether one has a goal, the class -/
def fr190 (m m2 : xM) : Prop := ∀ a i, ¬ (a = 47 ∧ i ≠ 4 ∧ i ≠ 5) → a ≠ 54 → m2.1 a i = m.1 a i
theorem fr190_t {m m1 m2 : xM} (h : fr190 m m1) (g : fr190 m1 m2) : fr190 m m2 := fun a i p q => (g a i p q).trans (h a i p q)
theorem r190_f {m m2 : xM} {vs : List Value} {rv : Option Value} (h : cPo tS tR q190c m vs rv m2) : fr190 m m2 := fun a i h1 h2 => h.2.1 a i (wm_f (fun q hm z => by
  have h9 : ∀ q ∈ q190c.2.2.2.2, (q.1 = 47 ∧ (q.2.2 ≤ 4 ∨ 6 ≤ q.2.1)) ∨ q.1 = 54 := by decide
  have := h9 q hm
  omega))
theorem mX_190 {m m2 : xM} {C : Nat} {T t : Mt} (hY : mX m C T t) (h : fr190 m m2) : mX m2 C T t := ⟨by rw [h _ _ (by omega) (by omega)]; exact hY.1, fun a b ha hb => by rw [h _ _ (by omega) (by omega), h _ _ (by omega) (by omega)]; exact hY.2 a b ha hb⟩
theorem rv_none {c : aCt} {m m' : xM} {vs : List Value} {rv : Option Value} (h : cPo tS tR c m vs rv m') (hc : ∀ o ∈ c.2.2.2.1, o.1 = none) : rv = none := by
  obtain ⟨o, ho, h9, -⟩ := h.2.2
  rw [hc o ho] at h9
  cases rv with
  | none => rfl
  | some v => cases h9
set_option maxHeartbeats 2000000 in
theorem c_pullOn {m : xM} {C S w p h e mk f l : Nat} {A B : Nat → Nat} {T t : Mt} (hI : gI tS tR m) (hC : C ≤ 8) (h3 : m.1 83 3 = nI (chp A B S w C)) (hY : mX m C T t) (ht : mle 1000000 t) (hp : p < 4) (hh : m.1 92 p = nI h) (hhC : h < C) (he : e < C) (emk : m.1 90 e = nI mk) (hmk : mk ≤ 999) (ef : m.1 93 p = nI f) (hf : f ≤ 9) (el : m.1 91 e = nI l) (hl : l ≤ 3) : fC 7 [.ref 83, .ref 89, .int (nI p), .int (nI e)] m (fun rv m' => ∃ v : Int32, rv = some (.int v) ∧ ((v = -1000000 ∧ ¬ isG (chp A B S w C) t 1000000 h e) ∨ (-1000000 < v.toInt ∧ isG (chp A B S w C) t 1000000 h e))) := by
  refine fC_of (by decide) (fun d n P H => ?_)
  have hr : rS m := hI.2
  have hch : chp A B S w C < 256 := Nat.lt_of_lt_of_le (chp_lt C) (Nat.pow_le_pow_right (by omega) hC : (2 : Nat) ^ C ≤ 2 ^ 8)
  replace H := f_aload_n H k7_0 rfl
  replace H := f_aload_n H k7_1 rfl
  replace H := f_iload_n H k7_2 rfl
  replace H := f_iload_n H k7_3 rfl
  obtain ⟨rv, m3, ⟨ho, e3⟩, h9_4⟩ := f_inv H k7_4 (by decide +kernel) (as := [.ref 89, .int _, .int _]) (b := 83) (r := []) (by rfl) (c_xcan hr hC h3 hY ht hp hh hhC he)
  replace H := h9_4
  rw [← e3] at H
  clear e3
  rcases ho with ⟨hg, rfl⟩ | ⟨hg, rfl⟩
  · replace H := f_if_ne_t H k7_7 (by decide) (t := 13) (by decide)
    have l1 := ht h e
    have hy : t h e < 1000000 := hg.2
    replace H := f_aload_n H k7_13 rfl
    replace H := f_gr H k7_14 (ci := 1) (f := 1) (x := 63) (by decide +kernel) (by decide) (hr 83 1 63 rfl)
    replace H := f_aload_n H k7_17 rfl
    replace H := f_gr H k7_18 (ci := 6) (f := 5) (x := 92) (by decide +kernel) (by decide) (hr 89 5 92 rfl)
    replace H := f_iload_n H k7_21 rfl
    have Hob := f_iald H k7_22 (c := 4) (by decide)
    clear H
    obtain ⟨hb22, H⟩ := Hob
    replace H := f_iload_n H k7_23 rfl
    rw [nI_clamp (by omega), hh] at H
    obtain ⟨rv, m3, ⟨rfl, e3⟩, h9_24⟩ := f_inv H k7_24 (by decide +kernel) (as := [.int _, .int _]) (b := 63) (r := []) (by rfl) (c_yardsB hr hC hhC he hY ht)
    replace H := h9_24
    rw [← e3, if_pos hy] at H
    clear e3
    replace H := f_istore H k7_27 (l2 := [(4, .int (nI (t h e / 16))), (0, .ref 83), (1, .ref 89), (2, .int (nI p)), (3, .int (nI e))]) rfl
    replace H := f_aload_n H k7_29 rfl
    replace H := f_gr H k7_30 (ci := 6) (f := 3) (x := 90) (by decide +kernel) (by decide) (hr 89 3 90 rfl)
    replace H := f_iload_n H k7_33 rfl
    have Hob := f_iald H k7_34 (c := 8) (by decide)
    clear H
    obtain ⟨hb34, H⟩ := Hob
    rw [nI_clamp (by omega), emk] at H
    replace H := f_istore H k7_35 (l2 := [(5, .int (nI mk)), (4, .int (nI (t h e / 16))), (0, .ref 83), (1, .ref 89), (2, .int (nI p)), (3, .int (nI e))]) rfl
    replace H := f_aload_n H k7_37 rfl
    replace H := f_gr H k7_38 (ci := 1) (f := 2) (x := 47) (by decide +kernel) (by decide) (hr 83 2 47 rfl)
    replace H := f_gi H k7_41 (ci := 3) (f := 5) (by decide +kernel) (by decide)
    replace H := f_iconst H k7_44 (v := -1) (by decide)
    have Hbr := f_icmp_ne H k7_45 (t := 74) (by decide)
    clear H
    rcases Hbr with ⟨c, H⟩ | ⟨c, H⟩
    · replace H := f_aload_n H k7_74 rfl
      replace H := f_gr H k7_75 (ci := 1) (f := 2) (x := 47) (by decide +kernel) (by decide) (hr 83 2 47 rfl)
      replace H := f_aload_n H k7_78 rfl
      replace H := f_gi H k7_79 (ci := 1) (f := 3) (by decide +kernel) (by decide)
      rw [h3] at H
      obtain ⟨rv, m3, ⟨rfl, e3⟩, h9_82⟩ := f_ins H k7_82 (by decide +kernel) (as := [.int _]) (r := [.ref 47]) (by rfl) (c_bitCount (v := chp A B S w C) (by omega))
      replace H := h9_82
      rw [← e3] at H
      clear e3
      replace H := f_aload_n H k7_85 rfl
      replace H := f_gi H k7_86 (ci := 6) (f := 2) (by decide +kernel) (by decide)
      obtain ⟨rv, m4, hc, h9_89⟩ := f_inv H k7_89 (by decide +kernel) (as := [.int _, .int _]) (b := 47) (r := []) (by rfl) (fC_vC q175 hI jTok ⟨aR_a 47, aI_a _, aI_a _, trivial⟩ gF_nil)
      replace H := h9_89
      obtain rfl := rv_none hc (by decide)
      have hI4 := hc.1
      have hr : rS m4 := hI4.2
      clear hc
      replace H := f_aload_n H k7_92 rfl
      replace H := f_gr H k7_93 (ci := 1) (f := 2) (x := 47) (by decide +kernel) (by decide) (hr 83 2 47 rfl)
      replace H := f_iload H k7_96 rfl
      replace H := f_iload H k7_98 rfl
      replace H := f_aload_n H k7_100 rfl
      replace H := f_gr H k7_101 (ci := 6) (f := 6) (x := 93) (by decide +kernel) (by decide) (hr 89 6 93 rfl)
      replace H := f_iload_n H k7_104 rfl
      have Hob := f_iald H k7_105 (c := 4) (by decide)
      clear H
      obtain ⟨hb105, H⟩ := Hob
      replace H := f_aload_n H k7_106 rfl
      replace H := f_gr H k7_107 (ci := 6) (f := 4) (x := 91) (by decide +kernel) (by decide) (hr 89 4 91 rfl)
      replace H := f_iload_n H k7_110 rfl
      have Hob := f_iald H k7_111 (c := 8) (by decide)
      clear H
      obtain ⟨hb111, H⟩ := Hob
      obtain ⟨rv, m5, hc, h9_112⟩ := f_inv H k7_112 (by decide +kernel) (as := [.int _, .int _, .int _, .int _]) (b := 47) (r := []) (by rfl) (fC_vC q176 hI4 jTok ⟨aR_a 47, aI_a _, aI_a _, aI_a _, aI_a _, trivial⟩ gF_nil)
      replace H := h9_112
      obtain rfl := rv_none hc (by decide)
      have hr : rS m5 := hc.1.2
      clear hc
      replace H := f_bipush H k7_115 (v := -99) (by decide)
      replace H := f_bipush H k7_117 (v := 99) (by decide)
      replace H := f_aload_n H k7_119 rfl
      replace H := f_gr H k7_120 (ci := 1) (f := 2) (x := 47) (by decide +kernel) (by decide) (hr 83 2 47 rfl)
      obtain ⟨rv, m6, ⟨z, rfl⟩, h9_123⟩ := f_inv H k7_123 (by decide +kernel) (as := []) (b := 47) (r := [.int _, .int _]) (by rfl) (fC_int (j := 29) (by decide) (by decide +kernel))
      replace H := h9_123
      obtain ⟨rv, m7, ⟨⟨z1, rfl⟩, e3⟩, h9_126⟩ := f_ins H k7_126 (by decide +kernel) (as := [.int _, .int _]) (r := [.int _]) (by rfl) (c_minA)
      replace H := h9_126
      obtain ⟨rv, m8, ⟨⟨z2, rfl, hz2⟩, e4⟩, h9_129⟩ := f_ins H k7_129 (by decide +kernel) (as := [.int _, .int _]) (r := []) (by rfl) (c_maxA)
      replace H := h9_129
      replace H := f_iret H k7_132
      refine ⟨_, _, H, _, rfl, Or.inr ⟨?_, hg⟩⟩
      rw [show (-99 : Int32).toInt = -99 by decide] at hz2
      omega
    · replace H := f_aload_n H k7_48 rfl
      replace H := f_gr H k7_49 (ci := 6) (f := 6) (x := 93) (by decide +kernel) (by decide) (hr 89 6 93 rfl)
      replace H := f_iload_n H k7_52 rfl
      have Hob := f_iald H k7_53 (c := 4) (by decide)
      clear H
      obtain ⟨hb53, H⟩ := Hob
      replace H := f_iload H k7_54 rfl
      replace H := f_iconst H k7_56 (v := 2) (by decide)
      replace H := f_idiv H k7_57
      replace H := f_iadd H k7_58
      replace H := f_iconst H k7_59 (v := 2) (by decide)
      replace H := f_aload_n H k7_60 rfl
      replace H := f_gr H k7_61 (ci := 6) (f := 4) (x := 91) (by decide +kernel) (by decide) (hr 89 4 91 rfl)
      replace H := f_iload_n H k7_64 rfl
      have Hob := f_iald H k7_65 (c := 8) (by decide)
      clear H
      obtain ⟨hb65, H⟩ := Hob
      replace H := f_imul H k7_66
      replace H := f_iadd H k7_67
      replace H := f_iload H k7_68 rfl
      replace H := f_iconst H k7_70 (v := 3) (by decide)
      replace H := f_idiv H k7_71
      replace H := f_isub H k7_72
      rw [nI_clamp (by omega), nI_clamp (by omega), ef, el, show (2 : Int32) = nI 2 from rfl, show (3 : Int32) = nI 3 from rfl, nI_div (by omega) (by omega), nI_div (by omega) (by omega), nI_mul, r_ad, r_ad] at H
      replace H := f_iret H k7_73
      refine ⟨_, _, H, _, rfl, Or.inr ⟨?_, hg⟩⟩
      have e1 : mk / 2 ≤ 500 := by omega
      have e2 : t h e / 16 / 3 ≤ 100000 := by omega
      generalize mk / 2 = u1 at *
      generalize t h e / 16 / 3 = u2 at *
      rw [Int32.toInt_sub, nI_toInt (by omega), nI_toInt (by omega), Int.bmod_eq_of_le (by omega) (by omega)]
      omega
  · replace H := f_if_ne_f H k7_7 rfl
    replace H := f_ldc_i H k7_10 (v := -1000000) (by decide +kernel)
    replace H := f_iret H k7_12
    exact ⟨_, _, H, _, rfl, Or.inl ⟨rfl, hg⟩⟩
set_option maxHeartbeats 2000000 in
theorem c_goalOf {m : xM} {C S w p h f : Nat} {A B : Nat → Nat} {T t : Mt} (hI : gI tS tR m) (hC : C ≤ 8) (hc0 : m.1 3 0 = nI C) (h3 : m.1 83 3 = nI (chp A B S w C)) (hY : mX m C T t) (ht : mle 1000000 t) (hp : p < 4) (hh : m.1 92 p = nI h) (hhC : h < C) (hmk : ∀ e, e < C → ∃ k, m.1 90 e = nI k ∧ k ≤ 999) (ef : m.1 93 p = nI f) (hf : f ≤ 9) (hlm : ∀ e, e < C → ∃ k, m.1 91 e = nI k ∧ k ≤ 3) : fC 8 [.ref 83, .ref 89, .int (nI p)] m (fun rv m' => gI tS tR m' ∧ fr190 m m' ∧ ((rv = some (.int (-1)) ∧ ∀ e, e < C → ¬ isG (chp A B S w C) t 1000000 h e) ∨ ∃ e, e < C ∧ rv = some (.int (nI e)) ∧ isG (chp A B S w C) t 1000000 h e)) := by
  refine fC_of (by decide) (fun d n P H => ?_)
  have kM : (-1000000 : Int32).toInt = -1000000 := by decide
  have lp : ∀ n k b mo v m2, k ≤ C → gI tS tR m2 → fr190 m m2 → -1000000 ≤ mo.toInt → ((b = -1 ∧ mo = -1000000 ∧ ∀ e, e < k → ¬ isG (chp A B S w C) t 1000000 h e) ∨ ∃ e, e < C ∧ b = nI e ∧ isG (chp A B S w C) t 1000000 h e) → xF 8 (xw d) P n 9 [(5, .int (nI k)), (3, .int b), (4, .int mo), (6, .int v), (0, .ref 83), (1, .ref 89), (2, .int (nI p))] [] m2 → ∃ rv m', P rv m' ∧ gI tS tR m' ∧ fr190 m m' ∧ ((rv = some (.int (-1)) ∧ ∀ e, e < C → ¬ isG (chp A B S w C) t 1000000 h e) ∨ ∃ e, e < C ∧ rv = some (.int (nI e)) ∧ isG (chp A B S w C) t 1000000 h e) := by
    intro n
    induction n with
    | zero => exact fun k b mo v m2 _ _ _ _ _ H => (xF_0 H).elim
    | succ n ih =>
      intro k b mo v m2 hk hI2 hfr hmo hb H
      have hr : rS m2 := hI2.2
      have hY2 := mX_190 hY hfr
      have hcC : m2.1 3 0 = nI C := by rw [hfr 3 0 (by omega) (by omega)]; exact hc0
      have h32 : m2.1 83 3 = nI (chp A B S w C) := by rw [hfr _ _ (by omega) (by omega)]; exact h3
      have hh2 : m2.1 92 p = nI h := by rw [hfr _ _ (by omega) (by omega)]; exact hh
      have ef2 : m2.1 93 p = nI f := by rw [hfr _ _ (by omega) (by omega)]; exact ef
      replace H := f1_iload H k8_9 rfl
      replace H := f_aload_n H k8_11 rfl
      replace H := f_gr H k8_12 (ci := 1) (f := 0) (x := 3) (by decide +kernel) (by decide) (hr 83 0 3 rfl)
      replace H := f_gi H k8_15 (ci := 5) (f := 0) (by decide +kernel) (by decide)
      rw [hcC] at H
      have Hbr := f_icmp_ge H k8_18 (t := 51) (by decide)
      clear H
      rcases Hbr with ⟨c0, H⟩ | ⟨c0, H⟩
      · rw [nxle (by omega) (by omega)] at c0
        have ek : k = C := by omega
        subst ek
        replace H := f_iload_n H k8_51 rfl
        replace H := f_iret H k8_52
        refine ⟨_, _, H, hI2, hfr, ?_⟩
        rcases hb with ⟨rfl, -, h2⟩ | ⟨e, h1, rfl, h2⟩
        · exact Or.inl ⟨rfl, h2⟩
        · exact Or.inr ⟨e, h1, rfl, h2⟩
      · rw [nxle (by omega) (by omega)] at c0
        obtain ⟨mk, emk, hmk9⟩ := hmk k (by omega)
        obtain ⟨l, el, hl9⟩ := hlm k (by omega)
        rw [← hfr 90 k (by omega) (by omega)] at emk
        rw [← hfr 91 k (by omega) (by omega)] at el
        replace H := f_aload_n H k8_21 rfl
        replace H := f_aload_n H k8_22 rfl
        replace H := f_iload_n H k8_23 rfl
        replace H := f_iload H k8_24 rfl
        obtain ⟨rv, m3, ⟨⟨v9, rfl, hv⟩, hc⟩, h9_26⟩ := f_inv H k8_26 (by decide +kernel) (as := [.ref 89, .int _, .int _]) (b := 83) (r := []) (by rfl) (fC_two (c_pullOn hI2 hC h32 hY2 ht hp hh2 hhC (by omega) emk hmk9 ef2 hf el hl9) (fC_vC q190 hI2 jTok ⟨aR_a 83, aR_a 89, aI_n (L := 3) (by omega) (by omega), aI_n (L := 7) (by omega) (by omega), trivial⟩ gF_nil))
        replace H := h9_26
        have hI3 := hc.1
        have hf3 := fr190_t hfr (r190_f hc)
        clear hc
        replace H := f_istore H k8_29 (l2 := [(6, .int _), (5, .int (nI k)), (3, .int b), (4, .int mo), (0, .ref 83), (1, .ref 89), (2, .int (nI p))]) rfl
        replace H := f_iload H k8_31 rfl
        replace H := f_iload H k8_33 rfl
        have Hbr := f_icmp_le H k8_35 (t := 45) (by decide)
        clear H
        rcases Hbr with ⟨c1, H⟩ | ⟨c1, H⟩
        · rw [Int32.le_iff_toInt_le] at c1
          replace H := f_iinc H k8_45 rfl (l2 := [(5, .int (nI k + 1)), (6, .int v9), (3, .int b), (4, .int mo), (0, .ref 83), (1, .ref 89), (2, .int (nI p))]) rfl
          replace H := f_goto H k8_48 (t := 9) (by decide)
          replace H := f_ext H (l' := [(5, .int (nI k + 1)), (3, .int b), (4, .int mo), (6, .int v9), (0, .ref 83), (1, .ref 89), (2, .int (nI p))]) (lE_cons rfl (lE_cons rfl (lE_cons rfl (lE_cons rfl (lE_cons rfl (lE_cons rfl (lE_cons rfl (lE_nil)))))))) rfl rfl
          rw [nI_s] at H
          refine ih (k + 1) b mo v9 m3 (by omega) hI3 hf3 hmo ?_ H
          rcases hb with ⟨q1, q2, q3⟩ | q
          · refine Or.inl ⟨q1, q2, fun e he => ?_⟩
            by_cases ee : e = k
            · rw [ee]
              rcases hv with ⟨-, z⟩ | ⟨z, -⟩
              · exact z
              · rw [q2, kM] at c1; omega
            · exact q3 e (by omega)
          · exact Or.inr q
        · rw [Int32.le_iff_toInt_le] at c1
          replace H := f_iload H k8_38 rfl
          replace H := f_istore_n H k8_40 (l2 := [(3, .int (nI k)), (6, .int v9), (5, .int (nI k)), (4, .int mo), (0, .ref 83), (1, .ref 89), (2, .int (nI p))]) rfl
          replace H := f_iload H k8_41 rfl
          replace H := f_istore H k8_43 (l2 := [(4, .int v9), (3, .int (nI k)), (6, .int v9), (5, .int (nI k)), (0, .ref 83), (1, .ref 89), (2, .int (nI p))]) rfl
          replace H := f_iinc H k8_45 rfl (l2 := [(5, .int (nI k + 1)), (4, .int v9), (3, .int (nI k)), (6, .int v9), (0, .ref 83), (1, .ref 89), (2, .int (nI p))]) rfl
          replace H := f_goto H k8_48 (t := 9) (by decide)
          replace H := f_ext H (l' := [(5, .int (nI k + 1)), (3, .int (nI k)), (4, .int v9), (6, .int v9), (0, .ref 83), (1, .ref 89), (2, .int (nI p))]) (lE_cons rfl (lE_cons rfl (lE_cons rfl (lE_cons rfl (lE_cons rfl (lE_cons rfl (lE_cons rfl (lE_nil)))))))) rfl rfl
          rw [nI_s] at H
          refine ih (k + 1) (nI k) v9 v9 m3 (by omega) hI3 hf3 (by omega) (Or.inr ⟨k, by omega, rfl, ?_⟩) H
          rcases hv with ⟨z, -⟩ | ⟨-, z⟩
          · rw [z, kM] at c1; omega
          · exact z
  have hr : rS m := hI.2
  replace H := f_iconst H k8_0 (v := -1) (by decide)
  replace H := f_istore_n H k8_1 (l2 := [(3, .int (-1)), (0, .ref 83), (1, .ref 89), (2, .int (nI p))]) rfl
  replace H := f_ldc_i H k8_2 (v := -1000000) (by decide +kernel)
  replace H := f_istore H k8_4 (l2 := [(4, .int (-1000000)), (3, .int (-1)), (0, .ref 83), (1, .ref 89), (2, .int (nI p))]) rfl
  replace H := f_iconst H k8_6 (v := 0) (by decide)
  replace H := f_istore H k8_7 (l2 := [(5, .int 0), (4, .int (-1000000)), (3, .int (-1)), (0, .ref 83), (1, .ref 89), (2, .int (nI p))]) rfl
  replace H := f_ext H (l' := [(5, .int 0), (3, .int (-1)), (4, .int (-1000000)), (6, .int 0), (0, .ref 83), (1, .ref 89), (2, .int (nI p))]) (lE_cons rfl (lE_cons rfl (lE_cons rfl (lE_cons rfl (lE_cons rfl (lE_cons rfl (lE_nil))))))) rfl rfl
  exact lp n 0 (-1) (-1000000) 0 m (Nat.zero_le _) hI (fun _ _ _ _ => rfl) (by rw [kM]; omega) (Or.inl ⟨rfl, rfl, fun e he => absurd he (Nat.not_lt_zero _)⟩) H
