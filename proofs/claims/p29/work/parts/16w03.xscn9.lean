theorem k1_0 : lkc 0 (kcode 1) = some (.aload_n 0) := by decide +kernel
theorem k1_1 : lkc 1 (kcode 1) = some (.getfield 11) := by decide +kernel
theorem k1_4 : lkc 4 (kcode 1) = some (.aload_n 0) := by decide +kernel
theorem k1_5 : lkc 5 (kcode 1) = some (.getfield 18) := by decide +kernel
theorem k1_8 : lkc 8 (kcode 1) = some (.aaload) := by decide +kernel
theorem k1_9 : lkc 9 (kcode 1) = some (.astore_n 2) := by decide +kernel
theorem k1_10 : lkc 10 (kcode 1) = some (.aload_n 2) := by decide +kernel
theorem k1_11 : lkc 11 (kcode 1) = some (.ifnull 48) := by decide +kernel
theorem k1_14 : lkc 14 (kcode 1) = some (.aload_n 2) := by decide +kernel
theorem k1_15 : lkc 15 (kcode 1) = some (.aload_n 1) := by decide +kernel
theorem k1_16 : lkc 16 (kcode 1) = some (.invokevirtual 22) := by decide +kernel
theorem k1_19 : lkc 19 (kcode 1) = some (.aload_n 0) := by decide +kernel
theorem k1_20 : lkc 20 (kcode 1) = some (.aload_n 0) := by decide +kernel
theorem k1_21 : lkc 21 (kcode 1) = some (.getfield 18) := by decide +kernel
theorem k1_24 : lkc 24 (kcode 1) = some (.iconst 1) := by decide +kernel
theorem k1_25 : lkc 25 (kcode 1) = some (.iadd) := by decide +kernel
theorem k1_26 : lkc 26 (kcode 1) = some (.bipush 40) := by decide +kernel
theorem k1_28 : lkc 28 (kcode 1) = some (.if_icmp .ge 12) := by decide +kernel
theorem k1_31 : lkc 31 (kcode 1) = some (.aload_n 0) := by decide +kernel
theorem k1_32 : lkc 32 (kcode 1) = some (.getfield 18) := by decide +kernel
theorem k1_35 : lkc 35 (kcode 1) = some (.iconst 1) := by decide +kernel
theorem k1_36 : lkc 36 (kcode 1) = some (.iadd) := by decide +kernel
theorem k1_37 : lkc 37 (kcode 1) = some (.goto 4) := by decide +kernel
theorem k1_40 : lkc 40 (kcode 1) = some (.iconst 0) := by decide +kernel
theorem k1_41 : lkc 41 (kcode 1) = some (.putfield 18) := by decide +kernel
theorem k1_44 : lkc 44 (kcode 1) = some (.aload_n 0) := by decide +kernel
theorem k1_45 : lkc 45 (kcode 1) = some (.aload_n 0) := by decide +kernel
theorem k1_46 : lkc 46 (kcode 1) = some (.getfield 26) := by decide +kernel
theorem k1_49 : lkc 49 (kcode 1) = some (.iconst 1) := by decide +kernel
theorem k1_50 : lkc 50 (kcode 1) = some (.iadd) := by decide +kernel
theorem k1_51 : lkc 51 (kcode 1) = some (.bipush 40) := by decide +kernel
theorem k1_53 : lkc 53 (kcode 1) = some (.invokestatic 29) := by decide +kernel
theorem k1_56 : lkc 56 (kcode 1) = some (.putfield 26) := by decide +kernel
theorem k1_59 : lkc 59 (kcode 1) = some (.return_) := by decide +kernel
theorem k2_0 : lkc 0 (kcode 2) = some (.aload_n 0) := by decide +kernel
theorem k2_1 : lkc 1 (kcode 2) = some (.getfield 26) := by decide +kernel
theorem k2_4 : lkc 4 (kcode 2) = some (.ifCond .ne 5) := by decide +kernel
theorem k2_7 : lkc 7 (kcode 2) = some (.iconst 0) := by decide +kernel
theorem k2_8 : lkc 8 (kcode 2) = some (.ireturn) := by decide +kernel
theorem k2_9 : lkc 9 (kcode 2) = some (.aload_n 0) := by decide +kernel
theorem k2_10 : lkc 10 (kcode 2) = some (.getfield 18) := by decide +kernel
theorem k2_13 : lkc 13 (kcode 2) = some (.ifCond .le 12) := by decide +kernel
theorem k2_16 : lkc 16 (kcode 2) = some (.aload_n 0) := by decide +kernel
theorem k2_17 : lkc 17 (kcode 2) = some (.getfield 18) := by decide +kernel
theorem k2_20 : lkc 20 (kcode 2) = some (.iconst 1) := by decide +kernel
theorem k2_21 : lkc 21 (kcode 2) = some (.isub) := by decide +kernel
theorem k2_22 : lkc 22 (kcode 2) = some (.goto 5) := by decide +kernel
theorem k2_25 : lkc 25 (kcode 2) = some (.bipush 39) := by decide +kernel
theorem k2_27 : lkc 27 (kcode 2) = some (.istore_n 2) := by decide +kernel
theorem k2_28 : lkc 28 (kcode 2) = some (.aload_n 0) := by decide +kernel
theorem k2_29 : lkc 29 (kcode 2) = some (.getfield 11) := by decide +kernel
theorem k2_32 : lkc 32 (kcode 2) = some (.iload_n 2) := by decide +kernel
theorem k2_33 : lkc 33 (kcode 2) = some (.aaload) := by decide +kernel
theorem k2_34 : lkc 34 (kcode 2) = some (.astore_n 3) := by decide +kernel
theorem k2_35 : lkc 35 (kcode 2) = some (.aload_n 3) := by decide +kernel
theorem k2_36 : lkc 36 (kcode 2) = some (.ifnonnull 5) := by decide +kernel
theorem k2_41 : lkc 41 (kcode 2) = some (.aload_n 1) := by decide +kernel
theorem k2_42 : lkc 42 (kcode 2) = some (.aload_n 3) := by decide +kernel
theorem k2_43 : lkc 43 (kcode 2) = some (.invokevirtual 22) := by decide +kernel
theorem k2_46 : lkc 46 (kcode 2) = some (.aload_n 0) := by decide +kernel
theorem k2_47 : lkc 47 (kcode 2) = some (.iload_n 2) := by decide +kernel
theorem k2_48 : lkc 48 (kcode 2) = some (.putfield 18) := by decide +kernel
theorem k2_51 : lkc 51 (kcode 2) = some (.aload_n 0) := by decide +kernel
theorem k2_52 : lkc 52 (kcode 2) = some (.dup) := by decide +kernel
theorem k2_53 : lkc 53 (kcode 2) = some (.getfield 26) := by decide +kernel
theorem k2_56 : lkc 56 (kcode 2) = some (.iconst 1) := by decide +kernel
theorem k2_57 : lkc 57 (kcode 2) = some (.isub) := by decide +kernel
theorem k2_58 : lkc 58 (kcode 2) = some (.putfield 26) := by decide +kernel
theorem k2_61 : lkc 61 (kcode 2) = some (.iconst 1) := by decide +kernel
theorem k2_62 : lkc 62 (kcode 2) = some (.ireturn) := by decide +kernel
theorem k60_0 : lkc 0 (kcode 60) = some (.aload_n 0) := by decide +kernel
theorem k60_1 : lkc 1 (kcode 60) = some (.aload_n 1) := by decide +kernel
theorem k60_2 : lkc 2 (kcode 60) = some (.getfield 30) := by decide +kernel
theorem k60_5 : lkc 5 (kcode 60) = some (.putfield 30) := by decide +kernel
theorem k60_8 : lkc 8 (kcode 60) = some (.aload_n 0) := by decide +kernel
theorem k60_9 : lkc 9 (kcode 60) = some (.aload_n 1) := by decide +kernel
theorem k60_10 : lkc 10 (kcode 60) = some (.getfield 37) := by decide +kernel
theorem k60_13 : lkc 13 (kcode 60) = some (.putfield 37) := by decide +kernel
theorem k60_16 : lkc 16 (kcode 60) = some (.aload_n 0) := by decide +kernel
theorem k60_17 : lkc 17 (kcode 60) = some (.aload_n 1) := by decide +kernel
theorem k60_18 : lkc 18 (kcode 60) = some (.getfield 40) := by decide +kernel
theorem k60_21 : lkc 21 (kcode 60) = some (.putfield 40) := by decide +kernel
theorem k60_24 : lkc 24 (kcode 60) = some (.aload_n 1) := by decide +kernel
theorem k60_25 : lkc 25 (kcode 60) = some (.getfield 9) := by decide +kernel
theorem k60_28 : lkc 28 (kcode 60) = some (.iconst 0) := by decide +kernel
theorem k60_29 : lkc 29 (kcode 60) = some (.aload_n 0) := by decide +kernel
theorem k60_30 : lkc 30 (kcode 60) = some (.getfield 9) := by decide +kernel
theorem k60_33 : lkc 33 (kcode 60) = some (.iconst 0) := by decide +kernel
theorem k60_34 : lkc 34 (kcode 60) = some (.bipush 8) := by decide +kernel
theorem k60_36 : lkc 36 (kcode 60) = some (.invokestatic 50) := by decide +kernel
theorem k60_39 : lkc 39 (kcode 60) = some (.aload_n 1) := by decide +kernel
theorem k60_40 : lkc 40 (kcode 60) = some (.getfield 15) := by decide +kernel
theorem k60_43 : lkc 43 (kcode 60) = some (.iconst 0) := by decide +kernel
theorem k60_44 : lkc 44 (kcode 60) = some (.aload_n 0) := by decide +kernel
theorem k60_45 : lkc 45 (kcode 60) = some (.getfield 15) := by decide +kernel
theorem k60_48 : lkc 48 (kcode 60) = some (.iconst 0) := by decide +kernel
theorem k60_49 : lkc 49 (kcode 60) = some (.bipush 8) := by decide +kernel
theorem k60_51 : lkc 51 (kcode 60) = some (.invokestatic 50) := by decide +kernel
theorem k60_54 : lkc 54 (kcode 60) = some (.aload_n 1) := by decide +kernel
theorem k60_55 : lkc 55 (kcode 60) = some (.getfield 18) := by decide +kernel
theorem k60_58 : lkc 58 (kcode 60) = some (.iconst 0) := by decide +kernel
theorem k60_59 : lkc 59 (kcode 60) = some (.aload_n 0) := by decide +kernel
theorem k60_60 : lkc 60 (kcode 60) = some (.getfield 18) := by decide +kernel
theorem k60_63 : lkc 63 (kcode 60) = some (.iconst 0) := by decide +kernel
theorem k60_64 : lkc 64 (kcode 60) = some (.iconst 4) := by decide +kernel
theorem k60_65 : lkc 65 (kcode 60) = some (.invokestatic 50) := by decide +kernel
theorem k60_68 : lkc 68 (kcode 60) = some (.aload_n 1) := by decide +kernel
theorem k60_69 : lkc 69 (kcode 60) = some (.getfield 21) := by decide +kernel
theorem k60_72 : lkc 72 (kcode 60) = some (.iconst 0) := by decide +kernel
theorem k60_73 : lkc 73 (kcode 60) = some (.aload_n 0) := by decide +kernel
theorem k60_74 : lkc 74 (kcode 60) = some (.getfield 21) := by decide +kernel
theorem k60_77 : lkc 77 (kcode 60) = some (.iconst 0) := by decide +kernel
theorem k60_78 : lkc 78 (kcode 60) = some (.iconst 4) := by decide +kernel
theorem k60_79 : lkc 79 (kcode 60) = some (.invokestatic 50) := by decide +kernel
theorem k60_82 : lkc 82 (kcode 60) = some (.return_) := by decide +kernel
/-! forward: scenes kept and taken back (the class) -/
theorem f_ifnull {k pc n b : Nat} {ca : Nat → List Value → xM → (Option Value → xM → Prop) → Prop} {P : Option Value → xM → Prop} {l : List (Nat × Value)} {r : List Value} {m : xM} {a : Int} (h : xF k ca P n pc l (.ref b :: r) m) (hi : lkc pc (kcode k) = some (.ifnull a)) : xF k ca P n (pc + 3) l r m := by
  obtain ⟨n2, hn, h⟩ := f_xi h hi
  exact ⟨n2, hn, h⟩
theorem f_ifnonnull {k pc n b t : Nat} {ca : Nat → List Value → xM → (Option Value → xM → Prop) → Prop} {P : Option Value → xM → Prop} {l : List (Nat × Value)} {r : List Value} {m : xM} {a : Int} (h : xF k ca P n pc l (.ref b :: r) m) (hi : lkc pc (kcode k) = some (.ifnonnull a)) (ht : tgt pc a = t) : xF k ca P n t l r m := by
  subst ht
  obtain ⟨n2, hn, h⟩ := f_xi h hi
  exact ⟨n2, hn, h⟩
/-- a scene's cells: the object b and its four rows behind it -/
def scO (b : Nat) : Prop := tR b 3 = some (b + 1) ∧ lay (b + 1) = (0, 0, 8) ∧ tR b 4 = some (b + 2) ∧ lay (b + 2) = (0, 0, 8) ∧ tR b 5 = some (b + 3) ∧ lay (b + 3) = (0, 0, 4) ∧ tR b 6 = some (b + 4) ∧ lay (b + 4) = (0, 0, 4)
theorem sc_k : ∀ i : Fin 40, (tR (101 + 5 * i.val) 3 = some (101 + 5 * i.val + 1) ∧ lay (101 + 5 * i.val + 1) = (0, 0, 8) ∧ tR (101 + 5 * i.val) 4 = some (101 + 5 * i.val + 2) ∧ lay (101 + 5 * i.val + 2) = (0, 0, 8) ∧ tR (101 + 5 * i.val) 5 = some (101 + 5 * i.val + 3) ∧ lay (101 + 5 * i.val + 3) = (0, 0, 4) ∧ tR (101 + 5 * i.val) 6 = some (101 + 5 * i.val + 4) ∧ lay (101 + 5 * i.val + 4) = (0, 0, 4)) ∧ tR 100 i.val = some (101 + 5 * i.val) := by decide +kernel
theorem sc_89 : scO 89 := by unfold scO; decide +kernel
theorem sc_94 : scO 94 := by unfold scO; decide +kernel
theorem sc_305 : scO 305 := by unfold scO; decide +kernel
theorem sc_kO {i : Nat} (h : i < 40) : scO (101 + 5 * i) ∧ tR 100 i = some (101 + 5 * i) := sc_k ⟨i, h⟩
def scB (b s : Nat) (m m' : xM) : Prop := m'.2 = m.2 ∧ (∀ a i, ¬ (b ≤ a ∧ a ≤ b + 4) → m'.1 a i = m.1 a i) ∧ (∀ i, i < 3 → m'.1 b i = m.1 s i) ∧ (∀ i, i < 8 → m'.1 (b + 1) i = m.1 (s + 1) i ∧ m'.1 (b + 2) i = m.1 (s + 2) i) ∧ ∀ i, i < 4 → m'.1 (b + 3) i = m.1 (s + 3) i ∧ m'.1 (b + 4) i = m.1 (s + 4) i
set_option maxHeartbeats 2000000 in
theorem c_scBecome {m : xM} {b s : Nat} (hr : rS m) (hb : scO b) (hs : scO s) (hd : b + 5 ≤ s ∨ s + 5 ≤ b) : fC 60 [.ref b, .ref s] m (fun rv m' => rv = none ∧ scB b s m m') := by
  refine fC_of (by decide) (fun d n P H => ?_)
  obtain ⟨b1, b2, b3, b4, b5, b6, b7, b8⟩ := hb
  obtain ⟨s1, s2, s3, s4, s5, s6, s7, s8⟩ := hs
  obtain ⟨B1, hB1⟩ : ∃ R, R = b + 1 := ⟨_, rfl⟩
  obtain ⟨B2, hB2⟩ : ∃ R, R = b + 2 := ⟨_, rfl⟩
  obtain ⟨B3, hB3⟩ : ∃ R, R = b + 3 := ⟨_, rfl⟩
  obtain ⟨B4, hB4⟩ : ∃ R, R = b + 4 := ⟨_, rfl⟩
  obtain ⟨S1, hS1⟩ : ∃ R, R = s + 1 := ⟨_, rfl⟩
  obtain ⟨S2, hS2⟩ : ∃ R, R = s + 2 := ⟨_, rfl⟩
  obtain ⟨S3, hS3⟩ : ∃ R, R = s + 3 := ⟨_, rfl⟩
  obtain ⟨S4, hS4⟩ : ∃ R, R = s + 4 := ⟨_, rfl⟩
  rw [← hB1] at b1 b2
  rw [← hB2] at b3 b4
  rw [← hB3] at b5 b6
  rw [← hB4] at b7 b8
  rw [← hS1] at s1 s2
  rw [← hS2] at s3 s4
  rw [← hS3] at s5 s6
  rw [← hS4] at s7 s8
  have k8 : (8 : Int32).toNatClampNeg = 8 := by decide
  have k4 : (4 : Int32).toNatClampNeg = 4 := by decide
  replace H := f_aload_n H k60_0 rfl
  replace H := f_aload_n H k60_1 rfl
  replace H := f_gi H k60_2 (ci := 6) (f := 0) (by decide +kernel) (by decide)
  replace H := f_put_i H k60_5 (ci := 6) (f := 0) (by decide +kernel) (by decide)
  replace H := f_aload_n H k60_8 rfl
  replace H := f_aload_n H k60_9 rfl
  replace H := f_gi H k60_10 (ci := 6) (f := 1) (by decide +kernel) (by decide)
  replace H := f_put_i H k60_13 (ci := 6) (f := 1) (by decide +kernel) (by decide)
  replace H := f_aload_n H k60_16 rfl
  replace H := f_aload_n H k60_17 rfl
  replace H := f_gi H k60_18 (ci := 6) (f := 2) (by decide +kernel) (by decide)
  replace H := f_put_i H k60_21 (ci := 6) (f := 2) (by decide +kernel) (by decide)
  replace H := f_aload_n H k60_24 rfl
  replace H := f_gr H k60_25 (ci := 6) (f := 3) (x := S1) (by decide +kernel) (by decide) (hr s 3 S1 s1)
  replace H := f_iconst H k60_28 (v := 0) (by decide)
  replace H := f_aload_n H k60_29 rfl
  replace H := f_gr H k60_30 (ci := 6) (f := 3) (x := B1) (by decide +kernel) (by decide) (hr b 3 B1 b1)
  replace H := f_iconst H k60_33 (v := 0) (by decide)
  replace H := f_bipush H k60_34 (v := 8) (by decide)
  have Hob := f_cpy H k60_36 (z := 0) (nb := 8) (na := 8) (by decide +kernel) b2 s2
  clear H
  obtain ⟨hb36, H⟩ := Hob
  replace H := f_aload_n H k60_39 rfl
  replace H := f_gr H k60_40 (ci := 6) (f := 4) (x := S2) (by decide +kernel) (by decide) (hr s 4 S2 s3)
  replace H := f_iconst H k60_43 (v := 0) (by decide)
  replace H := f_aload_n H k60_44 rfl
  replace H := f_gr H k60_45 (ci := 6) (f := 4) (x := B2) (by decide +kernel) (by decide) (hr b 4 B2 b3)
  replace H := f_iconst H k60_48 (v := 0) (by decide)
  replace H := f_bipush H k60_49 (v := 8) (by decide)
  have Hob := f_cpy H k60_51 (z := 0) (nb := 8) (na := 8) (by decide +kernel) b4 s4
  clear H
  obtain ⟨hb51, H⟩ := Hob
  replace H := f_aload_n H k60_54 rfl
  replace H := f_gr H k60_55 (ci := 6) (f := 5) (x := S3) (by decide +kernel) (by decide) (hr s 5 S3 s5)
  replace H := f_iconst H k60_58 (v := 0) (by decide)
  replace H := f_aload_n H k60_59 rfl
  replace H := f_gr H k60_60 (ci := 6) (f := 5) (x := B3) (by decide +kernel) (by decide) (hr b 5 B3 b5)
  replace H := f_iconst H k60_63 (v := 0) (by decide)
  replace H := f_iconst H k60_64 (v := 4) (by decide)
  have Hob := f_cpy H k60_65 (z := 0) (nb := 4) (na := 4) (by decide +kernel) b6 s6
  clear H
  obtain ⟨hb65, H⟩ := Hob
  replace H := f_aload_n H k60_68 rfl
  replace H := f_gr H k60_69 (ci := 6) (f := 6) (x := S4) (by decide +kernel) (by decide) (hr s 6 S4 s7)
  replace H := f_iconst H k60_72 (v := 0) (by decide)
  replace H := f_aload_n H k60_73 rfl
  replace H := f_gr H k60_74 (ci := 6) (f := 6) (x := B4) (by decide +kernel) (by decide) (hr b 6 B4 b7)
  replace H := f_iconst H k60_77 (v := 0) (by decide)
  replace H := f_iconst H k60_78 (v := 4) (by decide)
  have Hob := f_cpy H k60_79 (z := 0) (nb := 4) (na := 4) (by decide +kernel) b8 s8
  clear H
  obtain ⟨hb79, H⟩ := Hob
  replace H := f_ret H k60_82
  rw [cl0, k8, k4] at H
  subst hB1 hB2 hB3 hB4 hS1 hS2 hS3 hS4
  refine ⟨_, _, H, rfl, rfl, fun a i h => ?_, fun i hi => ?_, fun i hi => ⟨?_, ?_⟩, fun i hi => ⟨?_, ?_⟩⟩
  · rw [mC_ne (by omega), mC_ne (by omega), mC_ne (by omega), mC_ne (by omega), mI_ne (by omega), mI_ne (by omega), mI_ne (by omega)]
  · rw [mC_ne (by omega), mC_ne (by omega), mC_ne (by omega), mC_ne (by omega)]
    match i, hi with
    | 0, _ => rw [mI_ne (by omega), mI_ne (by omega), mI_at]
    | 1, _ => rw [mI_ne (by omega), mI_at, mI_ne (by omega)]
    | 2, _ => rw [mI_at, mI_ne (by omega), mI_ne (by omega)]
  · rw [mC_ne (by omega), mC_ne (by omega), mC_ne (by omega), mC_at, cp_in hi, mI_ne (by omega), mI_ne (by omega), mI_ne (by omega)]
  · rw [mC_ne (by omega), mC_ne (by omega), mC_at, cp_in hi, mC_ne (by omega), mI_ne (by omega), mI_ne (by omega), mI_ne (by omega)]
  · rw [mC_ne (by omega), mC_at, cp_in hi, mC_ne (by omega), mC_ne (by omega), mI_ne (by omega), mI_ne (by omega), mI_ne (by omega)]
  · rw [mC_at, cp_in hi, mC_ne (by omega), mC_ne (by omega), mC_ne (by omega), mI_ne (by omega), mI_ne (by omega), mI_ne (by omega)]
def nx1 (x : Nat) : Nat := if x + 1 < 40 then x + 1 else 0
theorem c_keep {m : xM} {x h : Nat} (hr : rS m) (hx : m.1 99 1 = nI x) (hx4 : x < 40) (hh : m.1 99 2 = nI h) (hh4 : h ≤ 40) : fC 1 [.ref 99, .ref 89] m (fun rv m' => rv = none ∧ ∃ m1, scB (101 + 5 * x) 89 m m1 ∧ m'.1 99 1 = nI (nx1 x) ∧ m'.1 99 2 = nI (min (h + 1) 40) ∧ m'.2 = m.2 ∧ ∀ a i, ¬ (a = 99 ∧ (i = 1 ∨ i = 2)) → m'.1 a i = m1.1 a i) := by
  refine fC_of (by decide) (fun d n P H => ?_)
  obtain ⟨ho, ht⟩ := sc_kO hx4
  obtain ⟨R, hR⟩ : ∃ R, R = 101 + 5 * x := ⟨_, rfl⟩
  rw [← hR] at ho ht
  replace H := f_aload_n H k1_0 rfl
  replace H := f_gr H k1_1 (ci := 0) (f := 0) (x := 100) (by decide +kernel) (by decide) (hr 99 0 100 rfl)
  replace H := f_aload_n H k1_4 rfl
  replace H := f_gi H k1_5 (ci := 0) (f := 1) (by decide +kernel) (by decide)
  have Hob := f_aald H k1_8 (x := 5) (c := 40) (v := .ref R) (by decide) ((by rw [hx, nI_clamp (by omega), hr 100 x R ht]; rfl))
  clear H
  obtain ⟨hb8, H⟩ := Hob
  replace H := f_astore_n H k1_9 (l2 := [(2, .ref R), (0, .ref 99), (1, .ref 89)]) rfl
  replace H := f_aload_n H k1_10 rfl
  replace H := f_ifnull H k1_11
  replace H := f_aload_n H k1_14 rfl
  replace H := f_aload_n H k1_15 rfl
  obtain ⟨rv, m1, ⟨rfl, g1⟩, h9_16⟩ := f_inv H k1_16 (by decide +kernel) (as := [.ref 89]) (b := R) (r := []) (by rfl) (c_scBecome hr ho sc_89 (by omega))
  replace H := h9_16
  have hr1 : rS m1 := fun a i b q => by rw [g1.1]; exact hr a i b q
  have x1 : m1.1 99 1 = nI x := by rw [g1.2.1 99 1 (by omega)]; exact hx
  have h1 : m1.1 99 2 = nI h := by rw [g1.2.1 99 2 (by omega)]; exact hh
  have hr := hr1
  have fin : ∀ n v, v = nI (nx1 x) → xF 1 (xw d) P n 41 [(2, .ref R), (0, .ref 99), (1, .ref 89)] [.int v, .ref 99] m1 → ∃ rv m', P rv m' ∧ rv = none ∧ ∃ m1, scB (101 + 5 * x) 89 m m1 ∧ m'.1 99 1 = nI (nx1 x) ∧ m'.1 99 2 = nI (min (h + 1) 40) ∧ m'.2 = m.2 ∧ ∀ a i, ¬ (a = 99 ∧ (i = 1 ∨ i = 2)) → m'.1 a i = m1.1 a i := by
    intro n v hv H
    replace H := f_put_i H k1_41 (ci := 0) (f := 1) (by decide +kernel) (by decide)
    replace H := f_aload_n H k1_44 rfl
    replace H := f_aload_n H k1_45 rfl
    replace H := f_gi H k1_46 (ci := 0) (f := 2) (by decide +kernel) (by decide)
    replace H := f_iconst H k1_49 (v := 1) (by decide)
    replace H := f_iadd H k1_50
    replace H := f_bipush H k1_51 (v := 40) (by decide)
    rw [mI_ne (by omega), h1, nI_s, show (40 : Int32) = nI 40 from rfl] at H
    obtain ⟨rv, m5, ⟨rfl, e9⟩, h9_53⟩ := f_ins H k1_53 (by decide +kernel) (as := [.int _, .int _]) (r := [.ref 99]) (by rfl) (c_minI (by omega) (by omega))
    replace H := h9_53
    rw [← e9] at H
    clear e9
    replace H := f_put_i H k1_56 (ci := 0) (f := 2) (by decide +kernel) (by decide)
    replace H := f_ret H k1_59
    exact ⟨_, _, H, rfl, m1, by rw [← hR]; exact g1, by rw [mI_ne (by omega), mI_at, hv], mI_at, g1.1, fun a i q => by rw [mI_ne (by omega), mI_ne (by omega)]⟩
  replace H := f_aload_n H k1_19 rfl
  replace H := f_aload_n H k1_20 rfl
  replace H := f_gi H k1_21 (ci := 0) (f := 1) (by decide +kernel) (by decide)
  replace H := f_iconst H k1_24 (v := 1) (by decide)
  replace H := f_iadd H k1_25
  replace H := f_bipush H k1_26 (v := 40) (by decide)
  rw [x1, nI_s, show (40 : Int32) = nI 40 from rfl] at H
  have Hbr := f_icmp_ge H k1_28 (t := 40) (by decide)
  clear H
  rcases Hbr with ⟨c, H⟩ | ⟨c, H⟩
  · rw [nxle (by omega) (by omega)] at c
    replace H := f_iconst H k1_40 (v := 0) (by decide)
    exact fin _ _ (by unfold nx1; rw [if_neg (by omega)]; rfl) H
  · rw [nxle (by omega) (by omega)] at c
    replace H := f_aload_n H k1_31 rfl
    replace H := f_gi H k1_32 (ci := 0) (f := 1) (by decide +kernel) (by decide)
    replace H := f_iconst H k1_35 (v := 1) (by decide)
    replace H := f_iadd H k1_36
    replace H := f_goto H k1_37 (t := 41) (by decide)
    rw [x1, nI_s] at H
    exact fin _ _ (by unfold nx1; rw [if_pos (by omega)]) H
def pv1 (x : Nat) : Nat := if x = 0 then 39 else x - 1
theorem c_takeBack {m : xM} {x h : Nat} (hr : rS m) (hx : m.1 99 1 = nI x) (hx4 : x < 40) (hh : m.1 99 2 = nI h) (hh4 : h ≤ 40) : fC 2 [.ref 99, .ref 89] m (fun rv m' => (h = 0 ∧ rv = some (.int 0) ∧ m' = m) ∨ (0 < h ∧ rv = some (.int 1) ∧ ∃ m1, scB 89 (101 + 5 * pv1 x) m m1 ∧ m'.1 99 1 = nI (pv1 x) ∧ m'.1 99 2 = nI (h - 1) ∧ m'.2 = m.2 ∧ ∀ a i, ¬ (a = 99 ∧ (i = 1 ∨ i = 2)) → m'.1 a i = m1.1 a i)) := by
  refine fC_of (by decide) (fun d n P H => ?_)
  have hp4 : pv1 x < 40 := by unfold pv1; split <;> omega
  obtain ⟨ho, ht⟩ := sc_kO hp4
  obtain ⟨R, hR⟩ : ∃ R, R = 101 + 5 * pv1 x := ⟨_, rfl⟩
  rw [← hR] at ho ht
  have fin : ∀ n v, v = nI (pv1 x) → 0 < h → xF 2 (xw d) P n 27 [(0, .ref 99), (1, .ref 89)] [.int v] m → ∃ rv m', P rv m' ∧ ((h = 0 ∧ rv = some (.int 0) ∧ m' = m) ∨ (0 < h ∧ rv = some (.int 1) ∧ ∃ m1, scB 89 (101 + 5 * pv1 x) m m1 ∧ m'.1 99 1 = nI (pv1 x) ∧ m'.1 99 2 = nI (h - 1) ∧ m'.2 = m.2 ∧ ∀ a i, ¬ (a = 99 ∧ (i = 1 ∨ i = 2)) → m'.1 a i = m1.1 a i)) := by
    intro n v hv h0 H
    subst hv
    replace H := f_istore_n H k2_27 (l2 := [(2, .int (nI (pv1 x))), (0, .ref 99), (1, .ref 89)]) rfl
    replace H := f_aload_n H k2_28 rfl
    replace H := f_gr H k2_29 (ci := 0) (f := 0) (x := 100) (by decide +kernel) (by decide) (hr 99 0 100 rfl)
    replace H := f_iload_n H k2_32 rfl
    have Hob := f_aald H k2_33 (x := 5) (c := 40) (v := .ref R) (by decide) ((by rw [nI_clamp (by omega), hr 100 _ R ht]; rfl))
    clear H
    obtain ⟨hb33, H⟩ := Hob
    replace H := f_astore_n H k2_34 (l2 := [(3, .ref R), (2, .int (nI (pv1 x))), (0, .ref 99), (1, .ref 89)]) rfl
    replace H := f_aload_n H k2_35 rfl
    replace H := f_ifnonnull H k2_36 (t := 41) (by decide)
    replace H := f_aload_n H k2_41 rfl
    replace H := f_aload_n H k2_42 rfl
    obtain ⟨rv, m1, ⟨rfl, g1⟩, h9_43⟩ := f_inv H k2_43 (by decide +kernel) (as := [.ref R]) (b := 89) (r := []) (by rfl) (c_scBecome hr sc_89 ho (by omega))
    replace H := h9_43
    have hr1 : rS m1 := fun a i b q => by rw [g1.1]; exact hr a i b q
    have h1 : m1.1 99 2 = nI h := by rw [g1.2.1 99 2 (by omega)]; exact hh
    have hr := hr1
    replace H := f_aload_n H k2_46 rfl
    replace H := f_iload_n H k2_47 rfl
    replace H := f_put_i H k2_48 (ci := 0) (f := 1) (by decide +kernel) (by decide)
    replace H := f_aload_n H k2_51 rfl
    replace H := f_dup H k2_52
    replace H := f_gi H k2_53 (ci := 0) (f := 2) (by decide +kernel) (by decide)
    replace H := f_iconst H k2_56 (v := 1) (by decide)
    replace H := f_isub H k2_57
    replace H := f_put_i H k2_58 (ci := 0) (f := 2) (by decide +kernel) (by decide)
    replace H := f_iconst H k2_61 (v := 1) (by decide)
    rw [mI_ne (by omega), h1, show nI h - 1 = nI (h - 1) by
      apply Int32.toInt_inj.mp
      rw [Int32.toInt_sub, nI_toInt (by omega), nI_toInt (by omega), show (1 : Int32).toInt = 1 by decide, Int.bmod_eq_of_le (by omega) (by omega)]
      omega] at H
    replace H := f_iret H k2_62
    exact ⟨_, _, H, Or.inr ⟨h0, rfl, m1, by rw [← hR]; exact g1, by rw [mI_ne (by omega), mI_at], mI_at, g1.1, fun a i q => by rw [mI_ne (by omega), mI_ne (by omega)]⟩⟩
  replace H := f_aload_n H k2_0 rfl
  replace H := f_gi H k2_1 (ci := 0) (f := 2) (by decide +kernel) (by decide)
  rw [hh] at H
  have Hbr := f_if_ne H k2_4 (t := 9) (by decide)
  clear H
  rcases Hbr with ⟨c, H⟩ | ⟨c, H⟩
  · have h0 : 0 < h := by
      have : h ≠ 0 := fun q => c (by rw [q]; rfl)
      omega
    replace H := f_aload_n H k2_9 rfl
    replace H := f_gi H k2_10 (ci := 0) (f := 1) (by decide +kernel) (by decide)
    rw [hx] at H
    have Hbr := f_if_le H k2_13 (t := 25) (by decide)
    clear H
    rcases Hbr with ⟨c2, H⟩ | ⟨c2, H⟩
    · rw [show (0 : Int32) = nI 0 from rfl, nxle (by omega) (by omega)] at c2
      replace H := f_bipush H k2_25 (v := 39) (by decide)
      exact fin _ _ (by unfold pv1; rw [if_pos (by omega)]; rfl) h0 H
    · rw [show (0 : Int32) = nI 0 from rfl, nxle (by omega) (by omega)] at c2
      replace H := f_aload_n H k2_16 rfl
      replace H := f_gi H k2_17 (ci := 0) (f := 1) (by decide +kernel) (by decide)
      replace H := f_iconst H k2_20 (v := 1) (by decide)
      replace H := f_isub H k2_21
      replace H := f_goto H k2_22 (t := 27) (by decide)
      rw [hx, show nI x - 1 = nI (x - 1) by
        apply Int32.toInt_inj.mp
        rw [Int32.toInt_sub, nI_toInt (by omega), nI_toInt (by omega), show (1 : Int32).toInt = 1 by decide, Int.bmod_eq_of_le (by omega) (by omega)]
        omega] at H
      exact fin _ _ (by unfold pv1; rw [if_neg (by omega)]) h0 H
  · rw [show (0 : Int32) = nI 0 from rfl, nI_inj (by omega) (by omega)] at c
    replace H := f_iconst H k2_7 (v := 0) (by decide)
    replace H := f_iret H k2_8
    exact ⟨_, _, H, Or.inl ⟨c, rfl, rfl⟩⟩
