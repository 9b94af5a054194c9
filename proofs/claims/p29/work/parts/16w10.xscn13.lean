theorem k121_0 : lkc 0 (kcode 121) = some (.lload_n 0) := by decide +kernel
theorem k121_1 : lkc 1 (kcode 121) = some (.ldc2_w 277) := by decide +kernel
theorem k121_4 : lkc 4 (kcode 121) = some (.lmul) := by decide +kernel
theorem k121_5 : lkc 5 (kcode 121) = some (.ldc2_w 279) := by decide +kernel
theorem k121_8 : lkc 8 (kcode 121) = some (.ladd) := by decide +kernel
theorem k121_9 : lkc 9 (kcode 121) = some (.lreturn) := by decide +kernel
theorem k122_0 : lkc 0 (kcode 122) = some (.iload_n 2) := by decide +kernel
theorem k122_1 : lkc 1 (kcode 122) = some (.iconst 1) := by decide +kernel
theorem k122_2 : lkc 2 (kcode 122) = some (.if_icmp .ge 7) := by decide +kernel
theorem k122_9 : lkc 9 (kcode 122) = some (.lload_n 0) := by decide +kernel
theorem k122_10 : lkc 10 (kcode 122) = some (.bipush 33) := by decide +kernel
theorem k122_12 : lkc 12 (kcode 122) = some (.lushr) := by decide +kernel
theorem k122_13 : lkc 13 (kcode 122) = some (.iload_n 2) := by decide +kernel
theorem k122_14 : lkc 14 (kcode 122) = some (.i2l) := by decide +kernel
theorem k122_15 : lkc 15 (kcode 122) = some (.lrem) := by decide +kernel
theorem k122_16 : lkc 16 (kcode 122) = some (.l2i) := by decide +kernel
theorem k122_17 : lkc 17 (kcode 122) = some (.ireturn) := by decide +kernel
theorem k218_0 : lkc 0 (kcode 218) = some (.aload_n 0) := by decide +kernel
theorem k218_1 : lkc 1 (kcode 218) = some (.aload_n 0) := by decide +kernel
theorem k218_2 : lkc 2 (kcode 218) = some (.getfield 379) := by decide +kernel
theorem k218_5 : lkc 5 (kcode 218) = some (.ldc2_w 383) := by decide +kernel
theorem k218_8 : lkc 8 (kcode 218) = some (.lmul) := by decide +kernel
theorem k218_9 : lkc 9 (kcode 218) = some (.ldc2_w 385) := by decide +kernel
theorem k218_12 : lkc 12 (kcode 218) = some (.ladd) := by decide +kernel
theorem k218_13 : lkc 13 (kcode 218) = some (.putfield 379) := by decide +kernel
theorem k218_16 : lkc 16 (kcode 218) = some (.aload_n 0) := by decide +kernel
theorem k218_17 : lkc 17 (kcode 218) = some (.getfield 379) := by decide +kernel
theorem k218_20 : lkc 20 (kcode 218) = some (.bipush 33) := by decide +kernel
theorem k218_22 : lkc 22 (kcode 218) = some (.lushr) := by decide +kernel
theorem k218_23 : lkc 23 (kcode 218) = some (.iload_n 1) := by decide +kernel
theorem k218_24 : lkc 24 (kcode 218) = some (.i2l) := by decide +kernel
theorem k218_25 : lkc 25 (kcode 218) = some (.lrem) := by decide +kernel
theorem k218_26 : lkc 26 (kcode 218) = some (.l2i) := by decide +kernel
theorem k218_27 : lkc 27 (kcode 218) = some (.ireturn) := by decide +kernel
/-! forward: what is drawn, both sides -/
def shf (x : Int64) : Int64 := x * 6364136223846793005 + 1442695040888963407
def u33 (x : Int64) : Int64 := (x.toUInt64 >>> ((33 : Int32).toInt64.toUInt64 &&& Int64.toUInt64 63)).toInt64
def drw (x : Int64) (j : Int32) : Int32 := (u33 x - u33 x / j.toInt64 * j.toInt64).toInt32
def drN (x : Int64) (j : Nat) : Nat := (u33 x).toInt.toNat % j
theorem u64_i (y : UInt64) (h : y.toNat < 2147483648) : y.toInt64.toInt = (y.toNat : Int) := by
  show y.toBitVec.toInt = _
  rw [BitVec.toInt_eq_toNat_of_lt (by show 2 * y.toNat < 2 ^ 64; omega)]
  rfl
theorem u33_r (x : Int64) : 0 ≤ (u33 x).toInt ∧ (u33 x).toInt < 2147483648 := by
  have h2 : (x.toUInt64 >>> ((33 : Int32).toInt64.toUInt64 &&& Int64.toUInt64 63)).toNat < 2147483648 := by
    rw [UInt64.toNat_shiftRight, show ((33 : Int32).toInt64.toUInt64 &&& Int64.toUInt64 63).toNat % 64 = 33 by decide, Nat.shiftRight_eq_div_pow]
    have := UInt64.toNat_lt x.toUInt64
    omega
  unfold u33
  rw [u64_i _ h2]
  omega
theorem i64_mod {u j : Int64} {v k : Nat} (hu : u.toInt = v) (hv : v < 2147483648) (hj : j.toInt = k) : (u - u / j * j).toInt = ((v % k : Nat) : Int) := by
  have e1 : (u / j).toInt = ((v / k : Nat) : Int) := by
    rw [Int64.toInt_div, hu, hj, ← Int.ofNat_tdiv]
    have := Nat.div_le_self v k
    generalize v / k = q at *
    exact Int.bmod_eq_of_le (by omega) (by omega)
  have h2 : v / k * k ≤ v := Nat.div_mul_le_self v k
  have e2 : (u / j * j).toInt = ((v / k * k : Nat) : Int) := by
    rw [Int64.toInt_mul, e1, hj, ← Int.natCast_mul]
    generalize v / k * k = q at *
    exact Int.bmod_eq_of_le (by omega) (by omega)
  have h3 : v - v / k * k = v % k := by
    have := Nat.div_add_mod v k
    rw [Nat.mul_comm] at this
    omega
  rw [Int64.toInt_sub, hu, e2, ← h3]
  generalize v / k * k = q at *
  rw [Int.bmod_eq_of_le (by omega) (by omega)]
  omega
theorem drw_n {x : Int64} {j : Nat} (hj : 0 < j) (hj2 : j < 1000) : drw x (nI j) = nI (drN x j) ∧ drN x j < j := by
  obtain ⟨h1, h2⟩ := u33_r x
  refine ⟨?_, Nat.mod_lt _ hj⟩
  have e := i64_mod (u := u33 x) (j := (nI j).toInt64) (v := (u33 x).toInt.toNat) (k := j) (by omega) (by omega) (by rw [Int32.toInt_toInt64, nI_toInt (by omega)])
  have h3 := Nat.mod_lt (u33 x).toInt.toNat hj
  unfold drw drN
  apply Int32.toInt_inj.mp
  rw [Int64.toInt_toInt32, e]
  generalize (u33 x).toInt.toNat % j = r at *
  rw [nI_toInt (by omega)]
  exact Int.bmod_eq_of_le (by omega) (by omega)
theorem c_shuf {m : xM} {x : Int64} : fC 121 [.long x] m (fun rv m' => rv = some (.long (shf x)) ∧ m = m') := by
  refine fC_of (by decide) (fun d n P H => ?_)
  replace H := f_lload_n H k121_0 rfl
  replace H := f_ldc2 H k121_1 (v := 6364136223846793005) (by decide +kernel)
  replace H := f_lmul H k121_4
  replace H := f_ldc2 H k121_5 (v := 1442695040888963407) (by decide +kernel)
  replace H := f_ladd H k121_8
  replace H := f_lret H k121_9
  exact ⟨_, _, H, rfl, rfl⟩
theorem c_drawn {m : xM} {x : Int64} {j : Nat} (hj : 0 < j) (hj2 : j < 1000) : fC 122 [.long x, .int (nI j)] m (fun rv m' => rv = some (.int (nI (drN x j))) ∧ m = m') := by
  refine fC_of (by decide) (fun d n P H => ?_)
  replace H := f_iload_n H k122_0 rfl
  replace H := f_iconst H k122_1 (v := 1) (by decide)
  rw [show (1 : Int32) = nI 1 from rfl] at H
  replace H := f_icmp_ge_t H k122_2 (by rw [nxle (by omega) (by omega)]; omega) (t := 9) (by decide)
  replace H := f_lload_n H k122_9 rfl
  replace H := f_bipush H k122_10 (v := 33) (by decide)
  replace H := f_lushr H k122_12
  replace H := f_iload_n H k122_13 rfl
  replace H := f_i2l H k122_14
  replace H := f_lrem H k122_15
  replace H := f_l2i H k122_16
  rw [show ((x.toUInt64 >>> ((33 : Int32).toInt64.toUInt64 &&& Int64.toUInt64 63)).toInt64 - (x.toUInt64 >>> ((33 : Int32).toInt64.toUInt64 &&& Int64.toUInt64 63)).toInt64 / (nI j).toInt64 * (nI j).toInt64).toInt32 = drw x (nI j) from rfl, (drw_n hj hj2).1] at H
  replace H := f_iret H k122_17
  exact ⟨_, _, H, rfl, rfl⟩
theorem mJ_at {m : xM} {a i : Nat} {v : Int64} : (mJ m a i v).2.1 a i = v := by
  show u2 m.2.1 a i v a i = v
  unfold u2
  simp
theorem c_mdraw {m : xM} {x : Int64} {j : Nat} (hx : m.2.1 314 43 = x) (hj : 0 < j) (hj2 : j < 1000) : fC 218 [.ref 314, .int (nI j)] m (fun rv m' => rv = some (.int (nI (drN (shf x) j))) ∧ m' = mJ m 314 43 (shf x)) := by
  refine fC_of (by decide) (fun d n P H => ?_)
  replace H := f_aload_n H k218_0 rfl
  replace H := f_aload_n H k218_1 rfl
  replace H := f_gl H k218_2 (ci := 12) (f := 43) (by decide +kernel) (by decide)
  replace H := f_ldc2 H k218_5 (v := 6364136223846793005) (by decide +kernel)
  replace H := f_lmul H k218_8
  replace H := f_ldc2 H k218_9 (v := 1442695040888963407) (by decide +kernel)
  replace H := f_ladd H k218_12
  replace H := f_put_l H k218_13 (ci := 12) (f := 43) (by decide +kernel) (by decide)
  rw [hx, show x * 6364136223846793005 + 1442695040888963407 = shf x from rfl] at H
  replace H := f_aload_n H k218_16 rfl
  replace H := f_gl H k218_17 (ci := 12) (f := 43) (by decide +kernel) (by decide)
  replace H := f_bipush H k218_20 (v := 33) (by decide)
  replace H := f_lushr H k218_22
  replace H := f_iload_n H k218_23 rfl
  replace H := f_i2l H k218_24
  replace H := f_lrem H k218_25
  replace H := f_l2i H k218_26
  rw [mJ_at] at H
  rw [show (((shf x).toUInt64 >>> ((33 : Int32).toInt64.toUInt64 &&& Int64.toUInt64 63)).toInt64 - ((shf x).toUInt64 >>> ((33 : Int32).toInt64.toUInt64 &&& Int64.toUInt64 63)).toInt64 / (nI j).toInt64 * (nI j).toInt64).toInt32 = drw (shf x) (nI j) from rfl, (drw_n hj hj2).1] at H
  replace H := f_iret H k218_27
  exact ⟨_, _, H, rfl, rfl⟩
