/-! the bytes of a word, as both sides put them on the tape -/
def wqq (v : Int32) (s : Nat) : Int32 := v >>> (nI s &&& 31) &&& 255
def sb (v : Int32) (s : Nat) : Int32 := (v >>> (nI s &&& 31)).toInt8.toInt32
def isSh (s : Nat) : Prop := s = 24 ∨ s = 16 ∨ s = 8 ∨ s = 0
theorem bq_u {v : Int32} {s : Nat} (hs : isSh s) : (v.toUInt32 >>> ((nI s).toUInt32 &&& Int32.toUInt32 31)).toInt32 &&& 255 = wqq v s := by
  have h9 : s < 32 := by unfold isSh at hs; omega
  refine b_ext (fun i hi => ?_)
  unfold wqq
  rw [b_and, b_and, b_ushr s h9, b_sshr s h9 v hi, b_255]
  by_cases h : i < 8
  · rw [if_pos (by unfold isSh at hs; omega)]
  · rw [decide_eq_false h, Bool.and_false, Bool.and_false]
theorem i8_255 (w : Int32) : w.toInt8.toInt32 &&& 255 = w &&& 255 := by
  refine b_ext (fun i hi => ?_)
  rw [b_and, b_and, b_255]
  by_cases h : i < 8
  · congr 1
    show (BitVec.signExtend 32 (BitVec.signExtend 8 w.toBitVec)).getLsbD i = w.toBitVec.getLsbD i
    rw [BitVec.getLsbD_signExtend, BitVec.getLsbD_signExtend]
    simp [h, hi]
  · rw [decide_eq_false h, Bool.and_false, Bool.and_false]
theorem sb_bq (v : Int32) (s : Nat) : sb v s &&& 255 = wqq v s := i8_255 _
theorem sb_r (v : Int32) (s : Nat) : byR (sb v s) := i8_rng _
theorem sb_nar (v : Int32) (s : Nat) : vp_nar .byte (sb v s) = sb v s := nar8 (sb_r v s)
def cb (v : Int32) (s : Nat) : Nat := if wqq v s = 0 then 0 else 1
def wnn (v : Int32) : Nat := cb v 24 + cb v 16 + cb v 8 + cb v 0
theorem cb_le (v : Int32) (s : Nat) : cb v s ≤ 1 := by unfold cb; split <;> omega
theorem wnn_le (v : Int32) : wnn v ≤ 4 := by
  have h1 := cb_le v 24
  have h2 := cb_le v 16
  have h3 := cb_le v 8
  have h4 := cb_le v 0
  unfold wnn
  omega
abbrev pT : Type := Nat × (Nat → Int32)
def pw1 (f : Int32 → Nat → Int32) (S : pT) (v : Int32) (s : Nat) : pT := if wqq v s = 0 then S else (S.1 + 1, fun j => if j = S.1 then f v s else S.2 j)
def pw4 (f : Int32 → Nat → Int32) (S : pT) (v : Int32) : pT := pw1 f (pw1 f (pw1 f (pw1 f S v 24) v 16) v 8) v 0
theorem pw1_n (f : Int32 → Nat → Int32) (S : pT) (v : Int32) (s : Nat) : (pw1 f S v s).1 = S.1 + cb v s := by
  unfold pw1 cb
  split <;> rfl
theorem pw4_n (f : Int32 → Nat → Int32) (S : pT) (v : Int32) : (pw4 f S v).1 = S.1 + wnn v := by
  unfold pw4 wnn
  rw [pw1_n, pw1_n, pw1_n, pw1_n]
  omega
def pwR (S T : pT) : Prop := S.1 = T.1 ∧ S.2 = tt T.2 ∧ ∀ i, byR (T.2 i)
theorem pw1_R {S T : pT} (h : pwR S T) (v : Int32) (s : Nat) : pwR (pw1 wqq S v s) (pw1 sb T v s) := by
  obtain ⟨h1, h2, h3⟩ := h
  unfold pw1
  by_cases c : wqq v s = 0
  · rw [if_pos c, if_pos c]
    exact ⟨h1, h2, h3⟩
  · rw [if_neg c, if_neg c]
    refine ⟨by show S.1 + 1 = T.1 + 1; rw [h1], funext fun j => ?_, fun i => ?_⟩
    · show (if j = S.1 then wqq v s else S.2 j) = (if j = T.1 then sb v s else T.2 j) &&& 255
      rw [h1, h2]
      by_cases e : j = T.1
      · rw [if_pos e, if_pos e, sb_bq]
      · rw [if_neg e, if_neg e]
        rfl
    · show byR (if i = T.1 then sb v s else T.2 i)
      split
      · exact sb_r v s
      · exact h3 i
theorem pw4_R {S T : pT} (h : pwR S T) (v : Int32) : pwR (pw4 wqq S v) (pw4 sb T v) := pw1_R (pw1_R (pw1_R (pw1_R h v 24) v 16) v 8) v 0
/-- what is put: the bytes' cell A, the length's cell B, its field F -/
def apP (A B F : Nat) (m m' : xM) (S : pT) : Prop := (∀ a i, a ≠ A → ¬ (a = B ∧ i = F) → m'.1 a i = m.1 a i) ∧ m'.2 = m.2 ∧ m'.1 B F = nI S.1 ∧ m'.1 A = S.2
theorem apP_0 {A B F : Nat} {m : xM} {S : pT} (h1 : m.1 B F = nI S.1) (h2 : m.1 A = S.2) : apP A B F m m S := ⟨fun _ _ _ _ => rfl, rfl, h1, h2⟩
theorem apP_t {A B F : Nat} {m m1 m2 : xM} {S T : pT} (h1 : apP A B F m m1 S) (h2 : apP A B F m1 m2 T) : apP A B F m m2 T := ⟨fun a i h k => (h2.1 a i h k).trans (h1.1 a i h k), h2.2.1.trans h1.2.1, h2.2.2⟩
theorem apP_r {A B F : Nat} {m m' : xM} {S : pT} (h : apP A B F m m' S) (hr : rS m) : rS m' := fun a i b e => by rw [h.2.1]; exact hr a i b e
theorem apP_s {A B F : Nat} {m : xM} {S : pT} {b : Int32} (hAB : A ≠ B) (h1 : m.1 B F = nI S.1) (h2 : m.1 A = S.2) : apP A B F m (mI (mI m A S.1 b) B F (nI (S.1 + 1))) (S.1 + 1, fun j => if j = S.1 then b else S.2 j) := by
  refine ⟨fun a i h k => ?_, rfl, mI_at, funext fun j => ?_⟩
  · rw [mI_ne k, mI_ne (fun z => h z.1)]
  · rw [mI_ne (fun z => hAB z.1)]
    show _ = if j = S.1 then b else S.2 j
    by_cases e : j = S.1
    · rw [if_pos e, e, mI_at]
    · rw [if_neg e, mI_ne (fun z => e z.2), h2]
theorem k67_0 : lkc 0 (kcode 67) = some (.iconst 0) := by decide +kernel
theorem k67_1 : lkc 1 (kcode 67) = some (.istore_n 1) := by decide +kernel
theorem k67_2 : lkc 2 (kcode 67) = some (.bipush 24) := by decide +kernel
theorem k67_4 : lkc 4 (kcode 67) = some (.istore_n 2) := by decide +kernel
theorem k67_5 : lkc 5 (kcode 67) = some (.iload_n 2) := by decide +kernel
theorem k67_6 : lkc 6 (kcode 67) = some (.ifCond .lt 22) := by decide +kernel
theorem k67_9 : lkc 9 (kcode 67) = some (.iload_n 0) := by decide +kernel
theorem k67_10 : lkc 10 (kcode 67) = some (.iload_n 2) := by decide +kernel
theorem k67_11 : lkc 11 (kcode 67) = some (.iushr) := by decide +kernel
theorem k67_12 : lkc 12 (kcode 67) = some (.sipush 255) := by decide +kernel
theorem k67_15 : lkc 15 (kcode 67) = some (.iand) := by decide +kernel
theorem k67_16 : lkc 16 (kcode 67) = some (.ifCond .eq 6) := by decide +kernel
theorem k67_19 : lkc 19 (kcode 67) = some (.iinc 1 1) := by decide +kernel
theorem k67_22 : lkc 22 (kcode 67) = some (.iinc 2 (-8)) := by decide +kernel
theorem k67_25 : lkc 25 (kcode 67) = some (.goto (-20)) := by decide +kernel
theorem k67_28 : lkc 28 (kcode 67) = some (.iload_n 1) := by decide +kernel
theorem k67_29 : lkc 29 (kcode 67) = some (.ireturn) := by decide +kernel
theorem k68_0 : lkc 0 (kcode 68) = some (.bipush 24) := by decide +kernel
theorem k68_2 : lkc 2 (kcode 68) = some (.istore_n 2) := by decide +kernel
theorem k68_3 : lkc 3 (kcode 68) = some (.iload_n 2) := by decide +kernel
theorem k68_4 : lkc 4 (kcode 68) = some (.ifCond .lt 51) := by decide +kernel
theorem k68_7 : lkc 7 (kcode 68) = some (.iload_n 1) := by decide +kernel
theorem k68_8 : lkc 8 (kcode 68) = some (.iload_n 2) := by decide +kernel
theorem k68_9 : lkc 9 (kcode 68) = some (.iushr) := by decide +kernel
theorem k68_10 : lkc 10 (kcode 68) = some (.sipush 255) := by decide +kernel
theorem k68_13 : lkc 13 (kcode 68) = some (.iand) := by decide +kernel
theorem k68_14 : lkc 14 (kcode 68) = some (.istore_n 3) := by decide +kernel
theorem k68_15 : lkc 15 (kcode 68) = some (.iload_n 3) := by decide +kernel
theorem k68_16 : lkc 16 (kcode 68) = some (.ifCond .eq 33) := by decide +kernel
theorem k68_19 : lkc 19 (kcode 68) = some (.aload_n 0) := by decide +kernel
theorem k68_20 : lkc 20 (kcode 68) = some (.getfield 15) := by decide +kernel
theorem k68_23 : lkc 23 (kcode 68) = some (.sipush 240) := by decide +kernel
theorem k68_26 : lkc 26 (kcode 68) = some (.if_icmp .ge 23) := by decide +kernel
theorem k68_29 : lkc 29 (kcode 68) = some (.aload_n 0) := by decide +kernel
theorem k68_30 : lkc 30 (kcode 68) = some (.getfield 9) := by decide +kernel
theorem k68_33 : lkc 33 (kcode 68) = some (.aload_n 0) := by decide +kernel
theorem k68_34 : lkc 34 (kcode 68) = some (.getfield 15) := by decide +kernel
theorem k68_37 : lkc 37 (kcode 68) = some (.iload_n 3) := by decide +kernel
theorem k68_38 : lkc 38 (kcode 68) = some (.iastore) := by decide +kernel
theorem k68_39 : lkc 39 (kcode 68) = some (.aload_n 0) := by decide +kernel
theorem k68_40 : lkc 40 (kcode 68) = some (.dup) := by decide +kernel
theorem k68_41 : lkc 41 (kcode 68) = some (.getfield 15) := by decide +kernel
theorem k68_44 : lkc 44 (kcode 68) = some (.iconst 1) := by decide +kernel
theorem k68_45 : lkc 45 (kcode 68) = some (.iadd) := by decide +kernel
theorem k68_46 : lkc 46 (kcode 68) = some (.putfield 15) := by decide +kernel
theorem k68_49 : lkc 49 (kcode 68) = some (.iinc 2 (-8)) := by decide +kernel
theorem k68_52 : lkc 52 (kcode 68) = some (.goto (-49)) := by decide +kernel
theorem k68_55 : lkc 55 (kcode 68) = some (.return_) := by decide +kernel
theorem k158_0 : lkc 0 (kcode 158) = some (.iconst 0) := by decide +kernel
theorem k158_1 : lkc 1 (kcode 158) = some (.istore_n 1) := by decide +kernel
theorem k158_2 : lkc 2 (kcode 158) = some (.bipush 24) := by decide +kernel
theorem k158_4 : lkc 4 (kcode 158) = some (.istore_n 2) := by decide +kernel
theorem k158_5 : lkc 5 (kcode 158) = some (.iload_n 2) := by decide +kernel
theorem k158_6 : lkc 6 (kcode 158) = some (.ifCond .lt 27) := by decide +kernel
theorem k158_9 : lkc 9 (kcode 158) = some (.iload_n 1) := by decide +kernel
theorem k158_10 : lkc 10 (kcode 158) = some (.iload_n 0) := by decide +kernel
theorem k158_11 : lkc 11 (kcode 158) = some (.iload_n 2) := by decide +kernel
theorem k158_12 : lkc 12 (kcode 158) = some (.ishr) := by decide +kernel
theorem k158_13 : lkc 13 (kcode 158) = some (.sipush 255) := by decide +kernel
theorem k158_16 : lkc 16 (kcode 158) = some (.iand) := by decide +kernel
theorem k158_17 : lkc 17 (kcode 158) = some (.ifCond .eq 7) := by decide +kernel
theorem k158_20 : lkc 20 (kcode 158) = some (.iconst 1) := by decide +kernel
theorem k158_21 : lkc 21 (kcode 158) = some (.goto 4) := by decide +kernel
theorem k158_24 : lkc 24 (kcode 158) = some (.iconst 0) := by decide +kernel
theorem k158_25 : lkc 25 (kcode 158) = some (.iadd) := by decide +kernel
theorem k158_26 : lkc 26 (kcode 158) = some (.istore_n 1) := by decide +kernel
theorem k158_27 : lkc 27 (kcode 158) = some (.iinc 2 (-8)) := by decide +kernel
theorem k158_30 : lkc 30 (kcode 158) = some (.goto (-25)) := by decide +kernel
theorem k158_33 : lkc 33 (kcode 158) = some (.iload_n 1) := by decide +kernel
theorem k158_34 : lkc 34 (kcode 158) = some (.ireturn) := by decide +kernel
theorem k159_0 : lkc 0 (kcode 159) = some (.bipush 24) := by decide +kernel
theorem k159_2 : lkc 2 (kcode 159) = some (.istore_n 2) := by decide +kernel
theorem k159_3 : lkc 3 (kcode 159) = some (.iload_n 2) := by decide +kernel
theorem k159_4 : lkc 4 (kcode 159) = some (.ifCond .lt 45) := by decide +kernel
theorem k159_7 : lkc 7 (kcode 159) = some (.iload_n 1) := by decide +kernel
theorem k159_8 : lkc 8 (kcode 159) = some (.iload_n 2) := by decide +kernel
theorem k159_9 : lkc 9 (kcode 159) = some (.ishr) := by decide +kernel
theorem k159_10 : lkc 10 (kcode 159) = some (.sipush 255) := by decide +kernel
theorem k159_13 : lkc 13 (kcode 159) = some (.iand) := by decide +kernel
theorem k159_14 : lkc 14 (kcode 159) = some (.ifCond .ne 6) := by decide +kernel
theorem k159_17 : lkc 17 (kcode 159) = some (.goto 26) := by decide +kernel
theorem k159_20 : lkc 20 (kcode 159) = some (.aload_n 0) := by decide +kernel
theorem k159_21 : lkc 21 (kcode 159) = some (.getfield 9) := by decide +kernel
theorem k159_24 : lkc 24 (kcode 159) = some (.aload_n 0) := by decide +kernel
theorem k159_25 : lkc 25 (kcode 159) = some (.getfield 103) := by decide +kernel
theorem k159_28 : lkc 28 (kcode 159) = some (.iload_n 1) := by decide +kernel
theorem k159_29 : lkc 29 (kcode 159) = some (.iload_n 2) := by decide +kernel
theorem k159_30 : lkc 30 (kcode 159) = some (.ishr) := by decide +kernel
theorem k159_31 : lkc 31 (kcode 159) = some (.i2b) := by decide +kernel
theorem k159_32 : lkc 32 (kcode 159) = some (.bastore) := by decide +kernel
theorem k159_33 : lkc 33 (kcode 159) = some (.aload_n 0) := by decide +kernel
theorem k159_34 : lkc 34 (kcode 159) = some (.dup) := by decide +kernel
theorem k159_35 : lkc 35 (kcode 159) = some (.getfield 103) := by decide +kernel
theorem k159_38 : lkc 38 (kcode 159) = some (.iconst 1) := by decide +kernel
theorem k159_39 : lkc 39 (kcode 159) = some (.iadd) := by decide +kernel
theorem k159_40 : lkc 40 (kcode 159) = some (.putfield 103) := by decide +kernel
theorem k159_43 : lkc 43 (kcode 159) = some (.iinc 2 (-8)) := by decide +kernel
theorem k159_46 : lkc 46 (kcode 159) = some (.goto (-43)) := by decide +kernel
theorem k159_49 : lkc 49 (kcode 159) = some (.return_) := by decide +kernel
/-! forward: the tape fed, both sides -/
theorem c_bytesOf {m : xM} {v : Int32} : fC 67 [.int v] m (fun rv m' => rv = some (.int (nI (wnn v))) ∧ m' = m) := by
  refine fC_of (by decide) (fun d n P H => ?_)
  have rnd : ∀ (k c : Nat), isSh k → xF 67 (xw d) P n 5 [(2, .int (nI k)), (1, .int (nI c)), (0, .int v)] [] m → xF 67 (xw d) P n 5 [(2, .int (nI k + (-8))), (1, .int (nI (c + cb v k))), (0, .int v)] [] m := by
    intro k c hk H
    replace H := f_iload_n H k67_5 rfl
    replace H := f_if_lt_f H k67_6 (by rcases hk with rfl | rfl | rfl | rfl <;> decide)
    replace H := f_iload_n H k67_9 rfl
    replace H := f_iload_n H k67_10 rfl
    replace H := f_iushr H k67_11
    replace H := f_sipush H k67_12 (v := 255) (by decide)
    replace H := f_iand H k67_15
    rw [bq_u hk] at H
    have Hbr := f_if_eq H k67_16 (t := 22) (by decide)
    clear H
    rcases Hbr with ⟨c0, H⟩ | ⟨c0, H⟩
    · replace H := f_iinc H k67_22 rfl (l2 := [(2, .int (nI k + (-8))), (1, .int (nI c)), (0, .int v)]) rfl
      replace H := f_goto H k67_25 (t := 5) (by decide)
      rw [show cb v k = 0 from if_pos c0]
      exact H
    · replace H := f_iinc H k67_19 rfl (l2 := [(1, .int (nI c + 1)), (2, .int (nI k)), (0, .int v)]) rfl
      replace H := f_iinc H k67_22 rfl (l2 := [(2, .int (nI k + (-8))), (1, .int (nI c + 1)), (0, .int v)]) rfl
      replace H := f_goto H k67_25 (t := 5) (by decide)
      rw [nI_s] at H
      rw [show cb v k = 1 from if_neg c0]
      exact H
  replace H := f_iconst H k67_0 (v := 0) (by decide)
  replace H := f_istore_n H k67_1 (l2 := [(1, .int 0), (0, .int v)]) rfl
  replace H := f_bipush H k67_2 (v := 24) (by decide)
  replace H := f_istore_n H k67_4 (l2 := [(2, .int 24), (1, .int 0), (0, .int v)]) rfl
  replace H := rnd 24 0 (by unfold isSh; decide) H
  rw [show nI 24 + (-8) = nI 16 by decide] at H
  replace H := rnd 16 _ (by unfold isSh; decide) H
  rw [show nI 16 + (-8) = nI 8 by decide] at H
  replace H := rnd 8 _ (by unfold isSh; decide) H
  rw [show nI 8 + (-8) = nI 0 by decide] at H
  replace H := rnd 0 _ (by unfold isSh; decide) H
  rw [show 0 + cb v 24 + cb v 16 + cb v 8 + cb v 0 = wnn v by unfold wnn; omega] at H
  replace H := f_iload_n H k67_5 rfl
  replace H := f_if_lt_t H k67_6 (by decide) (t := 28) (by decide)
  replace H := f_iload_n H k67_28 rfl
  replace H := f_iret H k67_29
  exact ⟨_, _, H, rfl, rfl⟩
theorem c_append {m : xM} {N : Nat} {t : Nat → Int32} {v : Int32} (hr : rS m) (h1 : m.1 1 1 = nI N) (h2 : m.1 2 = t) (hN : N + wnn v ≤ 240) : fC 68 [.ref 1, .int v] m (fun rv m' => rv = none ∧ apP 2 1 1 m m' (pw4 wqq (N, t) v)) := by
  refine fC_of (by decide) (fun d n P H => ?_)
  have rnd : ∀ (k : Nat) (z : Int32) (S : pT) (m2 : xM), isSh k → rS m2 → m2.1 1 1 = nI S.1 → m2.1 2 = S.2 → S.1 + cb v k ≤ 240 → xF 68 (xw d) P n 3 [(2, .int (nI k)), (3, .int z), (0, .ref 1), (1, .int v)] [] m2 → ∃ m3, apP 2 1 1 m2 m3 (pw1 wqq S v k) ∧ xF 68 (xw d) P n 3 [(2, .int (nI k + (-8))), (3, .int (wqq v k)), (0, .ref 1), (1, .int v)] [] m3 := by
    intro k z S m2 hk hr e1 e2 hS H
    replace H := f_iload_n H k68_3 rfl
    replace H := f_if_lt_f H k68_4 (by rcases hk with rfl | rfl | rfl | rfl <;> decide)
    replace H := f_iload_n H k68_7 rfl
    replace H := f_iload_n H k68_8 rfl
    replace H := f_iushr H k68_9
    replace H := f_sipush H k68_10 (v := 255) (by decide)
    replace H := f_iand H k68_13
    rw [bq_u hk] at H
    replace H := f_istore_n H k68_14 (l2 := [(3, .int (wqq v k)), (2, .int (nI k)), (0, .ref 1), (1, .int v)]) rfl
    replace H := f_iload_n H k68_15 rfl
    have Hbr := f_if_eq H k68_16 (t := 49) (by decide)
    clear H
    rcases Hbr with ⟨c0, H⟩ | ⟨c0, H⟩
    · replace H := f_iinc H k68_49 rfl (l2 := [(2, .int (nI k + (-8))), (3, .int (wqq v k)), (0, .ref 1), (1, .int v)]) rfl
      replace H := f_goto H k68_52 (t := 3) (by decide)
      refine ⟨m2, ?_, H⟩
      unfold pw1
      rw [if_pos c0]
      exact apP_0 e1 e2
    · have hcb : cb v k = 1 := if_neg c0
      replace H := f_aload_n H k68_19 rfl
      replace H := f_gi H k68_20 (ci := 8) (f := 1) (by decide +kernel) (by decide)
      replace H := f_sipush H k68_23 (v := 240) (by decide)
      rw [e1] at H
      replace H := f_icmp_ge_f H k68_26 (fun z => by rw [Int32.le_iff_toInt_le, nI_toInt (by omega), show (240 : Int32).toInt = 240 by decide] at z; omega)
      replace H := f_aload_n H k68_29 rfl
      replace H := f_gr H k68_30 (ci := 8) (f := 0) (x := 2) (by decide +kernel) (by decide) (hr 1 0 2 rfl)
      replace H := f_aload_n H k68_33 rfl
      replace H := f_gi H k68_34 (ci := 8) (f := 1) (by decide +kernel) (by decide)
      replace H := f_iload_n H k68_37 rfl
      have Hob := f_iast H k68_38 (c := 240) (by decide)
      clear H
      obtain ⟨hb38, H⟩ := Hob
      replace H := f_aload_n H k68_39 rfl
      replace H := f_dup H k68_40
      replace H := f_gi H k68_41 (ci := 8) (f := 1) (by decide +kernel) (by decide)
      replace H := f_iconst H k68_44 (v := 1) (by decide)
      replace H := f_iadd H k68_45
      replace H := f_put_i H k68_46 (ci := 8) (f := 1) (by decide +kernel) (by decide)
      rw [mI_ne (by omega), e1, nI_s, nI_clamp (by omega)] at H
      replace H := f_iinc H k68_49 rfl (l2 := [(2, .int (nI k + (-8))), (3, .int (wqq v k)), (0, .ref 1), (1, .int v)]) rfl
      replace H := f_goto H k68_52 (t := 3) (by decide)
      refine ⟨_, ?_, H⟩
      unfold pw1
      rw [if_neg c0]
      exact apP_s (by decide) e1 e2
  have q4 := pw4_n wqq (N, t) v
  replace H := f_bipush H k68_0 (v := 24) (by decide)
  replace H := f_istore_n H k68_2 (l2 := [(2, .int 24), (0, .ref 1), (1, .int v)]) rfl
  replace H := f_ext H (l' := [(2, .int 24), (3, .int 0), (0, .ref 1), (1, .int v)]) (lE_cons rfl (lE_cons rfl (lE_cons rfl (lE_nil)))) rfl rfl
  have hnb : wnn v = cb v 24 + cb v 16 + cb v 8 + cb v 0 := rfl
  obtain ⟨m3, g3, H⟩ := rnd 24 _ (N, t) _ (by unfold isSh; decide) hr h1 h2 (by show N + cb v 24 ≤ 240; omega) H
  rw [show nI 24 + (-8) = nI 16 by decide] at H
  obtain ⟨m4, g4, H⟩ := rnd 16 _ _ _ (by unfold isSh; decide) (apP_r g3 hr) g3.2.2.1 g3.2.2.2 (by rw [pw1_n]; show N + cb v 24 + cb v 16 ≤ 240; omega) H
  have f4 := apP_t g3 g4
  rw [show nI 16 + (-8) = nI 8 by decide] at H
  obtain ⟨m5, g5, H⟩ := rnd 8 _ _ _ (by unfold isSh; decide) (apP_r f4 hr) g4.2.2.1 g4.2.2.2 (by rw [pw1_n, pw1_n]; show N + cb v 24 + cb v 16 + cb v 8 ≤ 240; omega) H
  have f5 := apP_t f4 g5
  rw [show nI 8 + (-8) = nI 0 by decide] at H
  obtain ⟨m6, g6, H⟩ := rnd 0 _ _ _ (by unfold isSh; decide) (apP_r f5 hr) g5.2.2.1 g5.2.2.2 (by rw [pw1_n, pw1_n, pw1_n]; show N + cb v 24 + cb v 16 + cb v 8 + cb v 0 ≤ 240; omega) H
  replace H := f_iload_n H k68_3 rfl
  replace H := f_if_lt_t H k68_4 (by decide) (t := 55) (by decide)
  replace H := f_ret H k68_55
  exact ⟨_, _, H, rfl, apP_t f5 g6⟩
theorem c_bytesIn {m : xM} {v : Int32} : fC 158 [.int v] m (fun rv m' => rv = some (.int (nI (wnn v))) ∧ m' = m) := by
  refine fC_of (by decide) (fun d n P H => ?_)
  have rnd : ∀ (k c : Nat), isSh k → xF 158 (xw d) P n 5 [(2, .int (nI k)), (1, .int (nI c)), (0, .int v)] [] m → xF 158 (xw d) P n 5 [(2, .int (nI k + (-8))), (1, .int (nI (c + cb v k))), (0, .int v)] [] m := by
    intro k c hk H
    replace H := f_iload_n H k158_5 rfl
    replace H := f_if_lt_f H k158_6 (by rcases hk with rfl | rfl | rfl | rfl <;> decide)
    replace H := f_iload_n H k158_9 rfl
    replace H := f_iload_n H k158_10 rfl
    replace H := f_iload_n H k158_11 rfl
    replace H := f_ishr H k158_12
    replace H := f_sipush H k158_13 (v := 255) (by decide)
    replace H := f_iand H k158_16
    rw [show v >>> (nI k &&& 31) &&& 255 = wqq v k from rfl] at H
    have Hbr := f_if_eq H k158_17 (t := 24) (by decide)
    clear H
    rcases Hbr with ⟨c0, H⟩ | ⟨c0, H⟩
    · replace H := f_iconst H k158_24 (v := 0) (by decide)
      replace H := f_iadd H k158_25
      rw [show nI c + 0 = nI (c + cb v k) by rw [show cb v k = 0 from if_pos c0]; exact r_ad c 0] at H
      replace H := f_istore_n H k158_26 (l2 := [(1, .int (nI (c + cb v k))), (2, .int (nI k)), (0, .int v)]) rfl
      replace H := f_iinc H k158_27 rfl (l2 := [(2, .int (nI k + (-8))), (1, .int (nI (c + cb v k))), (0, .int v)]) rfl
      replace H := f_goto H k158_30 (t := 5) (by decide)
      exact f_ext H (lE_cons rfl (lE_cons rfl (lE_cons rfl lE_nil))) rfl rfl
    · replace H := f_iconst H k158_20 (v := 1) (by decide)
      replace H := f_goto H k158_21 (t := 25) (by decide)
      replace H := f_iadd H k158_25
      rw [show nI c + 1 = nI (c + cb v k) by rw [show cb v k = 1 from if_neg c0]; exact r_ad c 1] at H
      replace H := f_istore_n H k158_26 (l2 := [(1, .int (nI (c + cb v k))), (2, .int (nI k)), (0, .int v)]) rfl
      replace H := f_iinc H k158_27 rfl (l2 := [(2, .int (nI k + (-8))), (1, .int (nI (c + cb v k))), (0, .int v)]) rfl
      replace H := f_goto H k158_30 (t := 5) (by decide)
      exact f_ext H (lE_cons rfl (lE_cons rfl (lE_cons rfl lE_nil))) rfl rfl
  replace H := f_iconst H k158_0 (v := 0) (by decide)
  replace H := f_istore_n H k158_1 (l2 := [(1, .int 0), (0, .int v)]) rfl
  replace H := f_bipush H k158_2 (v := 24) (by decide)
  replace H := f_istore_n H k158_4 (l2 := [(2, .int 24), (1, .int 0), (0, .int v)]) rfl
  replace H := rnd 24 0 (by unfold isSh; decide) H
  rw [show nI 24 + (-8) = nI 16 by decide] at H
  replace H := rnd 16 _ (by unfold isSh; decide) H
  rw [show nI 16 + (-8) = nI 8 by decide] at H
  replace H := rnd 8 _ (by unfold isSh; decide) H
  rw [show nI 8 + (-8) = nI 0 by decide] at H
  replace H := rnd 0 _ (by unfold isSh; decide) H
  rw [show 0 + cb v 24 + cb v 16 + cb v 8 + cb v 0 = wnn v by unfold wnn; omega] at H
  replace H := f_iload_n H k158_5 rfl
  replace H := f_if_lt_t H k158_6 (by decide) (t := 33) (by decide)
  replace H := f_iload_n H k158_33 rfl
  replace H := f_iret H k158_34
  exact ⟨_, _, H, rfl, rfl⟩
theorem c_put {m : xM} {N : Nat} {u : Nat → Int32} {v : Int32} (hr : rS m) (h1 : m.1 314 6 = nI N) (h2 : m.1 315 = u) (hN : N + wnn v ≤ 240) : fC 159 [.ref 314, .int v] m (fun rv m' => rv = none ∧ apP 315 314 6 m m' (pw4 sb (N, u) v)) := by
  refine fC_of (by decide) (fun d n P H => ?_)
  have rnd : ∀ (k : Nat) (S : pT) (m2 : xM), isSh k → rS m2 → m2.1 314 6 = nI S.1 → m2.1 315 = S.2 → S.1 + cb v k ≤ 240 → xF 159 (xw d) P n 3 [(2, .int (nI k)), (0, .ref 314), (1, .int v)] [] m2 → ∃ m3, apP 315 314 6 m2 m3 (pw1 sb S v k) ∧ xF 159 (xw d) P n 3 [(2, .int (nI k + (-8))), (0, .ref 314), (1, .int v)] [] m3 := by
    intro k S m2 hk hr e1 e2 hS H
    replace H := f_iload_n H k159_3 rfl
    replace H := f_if_lt_f H k159_4 (by rcases hk with rfl | rfl | rfl | rfl <;> decide)
    replace H := f_iload_n H k159_7 rfl
    replace H := f_iload_n H k159_8 rfl
    replace H := f_ishr H k159_9
    replace H := f_sipush H k159_10 (v := 255) (by decide)
    replace H := f_iand H k159_13
    rw [show v >>> (nI k &&& 31) &&& 255 = wqq v k from rfl] at H
    have Hbr := f_if_ne H k159_14 (t := 20) (by decide)
    clear H
    rcases Hbr with ⟨c0, H⟩ | ⟨c0, H⟩
    · have hcb : cb v k = 1 := if_neg c0
      replace H := f_aload_n H k159_20 rfl
      replace H := f_gr H k159_21 (ci := 12) (f := 1) (x := 315) (by decide +kernel) (by decide) (hr 314 1 315 rfl)
      replace H := f_aload_n H k159_24 rfl
      replace H := f_gi H k159_25 (ci := 12) (f := 6) (by decide +kernel) (by decide)
      replace H := f_iload_n H k159_28 rfl
      replace H := f_iload_n H k159_29 rfl
      replace H := f_ishr H k159_30
      replace H := f_i2b H k159_31
      rw [show (v >>> (nI k &&& 31)).toInt8.toInt32 = sb v k from rfl, e1] at H
      have Hob := f_bast H k159_32 (c := 240) (by decide)
      clear H
      obtain ⟨hb32, H⟩ := Hob
      replace H := f_aload_n H k159_33 rfl
      replace H := f_dup H k159_34
      replace H := f_gi H k159_35 (ci := 12) (f := 6) (by decide +kernel) (by decide)
      replace H := f_iconst H k159_38 (v := 1) (by decide)
      replace H := f_iadd H k159_39
      replace H := f_put_i H k159_40 (ci := 12) (f := 6) (by decide +kernel) (by decide)
      rw [sb_nar, mI_ne (by omega), e1, nI_s, nI_clamp (by omega)] at H
      replace H := f_iinc H k159_43 rfl (l2 := [(2, .int (nI k + (-8))), (0, .ref 314), (1, .int v)]) rfl
      replace H := f_goto H k159_46 (t := 3) (by decide)
      refine ⟨_, ?_, H⟩
      unfold pw1
      rw [if_neg c0]
      exact apP_s (by decide) e1 e2
    · replace H := f_goto H k159_17 (t := 43) (by decide)
      replace H := f_iinc H k159_43 rfl (l2 := [(2, .int (nI k + (-8))), (0, .ref 314), (1, .int v)]) rfl
      replace H := f_goto H k159_46 (t := 3) (by decide)
      refine ⟨m2, ?_, H⟩
      unfold pw1
      rw [if_pos c0]
      exact apP_0 e1 e2
  replace H := f_bipush H k159_0 (v := 24) (by decide)
  replace H := f_istore_n H k159_2 (l2 := [(2, .int 24), (0, .ref 314), (1, .int v)]) rfl
  have hnb : wnn v = cb v 24 + cb v 16 + cb v 8 + cb v 0 := rfl
  obtain ⟨m3, g3, H⟩ := rnd 24 (N, u) _ (by unfold isSh; decide) hr h1 h2 (by show N + cb v 24 ≤ 240; omega) H
  rw [show nI 24 + (-8) = nI 16 by decide] at H
  obtain ⟨m4, g4, H⟩ := rnd 16 _ _ (by unfold isSh; decide) (apP_r g3 hr) g3.2.2.1 g3.2.2.2 (by rw [pw1_n]; show N + cb v 24 + cb v 16 ≤ 240; omega) H
  have f4 := apP_t g3 g4
  rw [show nI 16 + (-8) = nI 8 by decide] at H
  obtain ⟨m5, g5, H⟩ := rnd 8 _ _ (by unfold isSh; decide) (apP_r f4 hr) g4.2.2.1 g4.2.2.2 (by rw [pw1_n, pw1_n]; show N + cb v 24 + cb v 16 + cb v 8 ≤ 240; omega) H
  have f5 := apP_t f4 g5
  rw [show nI 8 + (-8) = nI 0 by decide] at H
  obtain ⟨m6, g6, H⟩ := rnd 0 _ _ (by unfold isSh; decide) (apP_r f5 hr) g5.2.2.1 g5.2.2.2 (by rw [pw1_n, pw1_n, pw1_n]; show N + cb v 24 + cb v 16 + cb v 8 + cb v 0 ≤ 240; omega) H
  replace H := f_iload_n H k159_3 rfl
  replace H := f_if_lt_t H k159_4 (by decide) (t := 49) (by decide)
  replace H := f_ret H k159_49
  exact ⟨_, _, H, rfl, apP_t f5 g6⟩
theorem k96_0 : lkc 0 (kcode 96) = some (.iload_n 1) := by decide +kernel
theorem k96_1 : lkc 1 (kcode 96) = some (.invokestatic 106) := by decide +kernel
theorem k96_4 : lkc 4 (kcode 96) = some (.iload_n 2) := by decide +kernel
theorem k96_5 : lkc 5 (kcode 96) = some (.invokestatic 106) := by decide +kernel
theorem k96_8 : lkc 8 (kcode 96) = some (.iadd) := by decide +kernel
theorem k96_9 : lkc 9 (kcode 96) = some (.iload_n 3) := by decide +kernel
theorem k96_10 : lkc 10 (kcode 96) = some (.invokestatic 106) := by decide +kernel
theorem k96_13 : lkc 13 (kcode 96) = some (.iadd) := by decide +kernel
theorem k96_14 : lkc 14 (kcode 96) = some (.iload 4) := by decide +kernel
theorem k96_16 : lkc 16 (kcode 96) = some (.invokestatic 106) := by decide +kernel
theorem k96_19 : lkc 19 (kcode 96) = some (.iadd) := by decide +kernel
theorem k96_20 : lkc 20 (kcode 96) = some (.iload 5) := by decide +kernel
theorem k96_22 : lkc 22 (kcode 96) = some (.invokestatic 106) := by decide +kernel
theorem k96_25 : lkc 25 (kcode 96) = some (.iadd) := by decide +kernel
theorem k96_26 : lkc 26 (kcode 96) = some (.istore 6) := by decide +kernel
theorem k96_28 : lkc 28 (kcode 96) = some (.aload_n 0) := by decide +kernel
theorem k96_29 : lkc 29 (kcode 96) = some (.getfield 10) := by decide +kernel
theorem k96_32 : lkc 32 (kcode 96) = some (.getfield 110) := by decide +kernel
theorem k96_35 : lkc 35 (kcode 96) = some (.iload 6) := by decide +kernel
theorem k96_37 : lkc 37 (kcode 96) = some (.iadd) := by decide +kernel
theorem k96_38 : lkc 38 (kcode 96) = some (.sipush 240) := by decide +kernel
theorem k96_41 : lkc 41 (kcode 96) = some (.if_icmp .le 5) := by decide +kernel
theorem k96_44 : lkc 44 (kcode 96) = some (.iconst (-1)) := by decide +kernel
theorem k96_45 : lkc 45 (kcode 96) = some (.ireturn) := by decide +kernel
theorem k96_46 : lkc 46 (kcode 96) = some (.aload_n 0) := by decide +kernel
theorem k96_47 : lkc 47 (kcode 96) = some (.getfield 10) := by decide +kernel
theorem k96_50 : lkc 50 (kcode 96) = some (.iload_n 1) := by decide +kernel
theorem k96_51 : lkc 51 (kcode 96) = some (.invokevirtual 113) := by decide +kernel
theorem k96_54 : lkc 54 (kcode 96) = some (.aload_n 0) := by decide +kernel
theorem k96_55 : lkc 55 (kcode 96) = some (.getfield 10) := by decide +kernel
theorem k96_58 : lkc 58 (kcode 96) = some (.iload_n 2) := by decide +kernel
theorem k96_59 : lkc 59 (kcode 96) = some (.invokevirtual 113) := by decide +kernel
theorem k96_62 : lkc 62 (kcode 96) = some (.aload_n 0) := by decide +kernel
theorem k96_63 : lkc 63 (kcode 96) = some (.getfield 10) := by decide +kernel
theorem k96_66 : lkc 66 (kcode 96) = some (.iload_n 3) := by decide +kernel
theorem k96_67 : lkc 67 (kcode 96) = some (.invokevirtual 113) := by decide +kernel
theorem k96_70 : lkc 70 (kcode 96) = some (.aload_n 0) := by decide +kernel
theorem k96_71 : lkc 71 (kcode 96) = some (.getfield 10) := by decide +kernel
theorem k96_74 : lkc 74 (kcode 96) = some (.iload 4) := by decide +kernel
theorem k96_76 : lkc 76 (kcode 96) = some (.invokevirtual 113) := by decide +kernel
theorem k96_79 : lkc 79 (kcode 96) = some (.aload_n 0) := by decide +kernel
theorem k96_80 : lkc 80 (kcode 96) = some (.getfield 10) := by decide +kernel
theorem k96_83 : lkc 83 (kcode 96) = some (.iload 5) := by decide +kernel
theorem k96_85 : lkc 85 (kcode 96) = some (.invokevirtual 113) := by decide +kernel
theorem k96_88 : lkc 88 (kcode 96) = some (.aload_n 0) := by decide +kernel
theorem k96_89 : lkc 89 (kcode 96) = some (.getfield 10) := by decide +kernel
theorem k96_92 : lkc 92 (kcode 96) = some (.getfield 110) := by decide +kernel
theorem k96_95 : lkc 95 (kcode 96) = some (.ireturn) := by decide +kernel
theorem k97_0 : lkc 0 (kcode 97) = some (.iload_n 1) := by decide +kernel
theorem k97_1 : lkc 1 (kcode 97) = some (.ifCond .lt 14) := by decide +kernel
theorem k97_4 : lkc 4 (kcode 97) = some (.iload_n 1) := by decide +kernel
theorem k97_5 : lkc 5 (kcode 97) = some (.aload_n 0) := by decide +kernel
theorem k97_6 : lkc 6 (kcode 97) = some (.getfield 10) := by decide +kernel
theorem k97_9 : lkc 9 (kcode 97) = some (.getfield 110) := by decide +kernel
theorem k97_12 : lkc 12 (kcode 97) = some (.if_icmp .le 5) := by decide +kernel
theorem k97_15 : lkc 15 (kcode 97) = some (.iconst 0) := by decide +kernel
theorem k97_16 : lkc 16 (kcode 97) = some (.ireturn) := by decide +kernel
theorem k97_17 : lkc 17 (kcode 97) = some (.aload_n 0) := by decide +kernel
theorem k97_18 : lkc 18 (kcode 97) = some (.getfield 10) := by decide +kernel
theorem k97_21 : lkc 21 (kcode 97) = some (.iload_n 1) := by decide +kernel
theorem k97_22 : lkc 22 (kcode 97) = some (.putfield 110) := by decide +kernel
theorem k97_25 : lkc 25 (kcode 97) = some (.iconst 1) := by decide +kernel
theorem k97_26 : lkc 26 (kcode 97) = some (.ireturn) := by decide +kernel
theorem k104_0 : lkc 0 (kcode 104) = some (.iload_n 1) := by decide +kernel
theorem k104_1 : lkc 1 (kcode 104) = some (.iconst (-1)) := by decide +kernel
theorem k104_2 : lkc 2 (kcode 104) = some (.if_icmp .eq 20) := by decide +kernel
theorem k104_5 : lkc 5 (kcode 104) = some (.iload_n 1) := by decide +kernel
theorem k104_6 : lkc 6 (kcode 104) = some (.ifCond .lt 14) := by decide +kernel
theorem k104_9 : lkc 9 (kcode 104) = some (.iload_n 1) := by decide +kernel
theorem k104_10 : lkc 10 (kcode 104) = some (.aload_n 0) := by decide +kernel
theorem k104_11 : lkc 11 (kcode 104) = some (.getfield 38) := by decide +kernel
theorem k104_14 : lkc 14 (kcode 104) = some (.getfield 212) := by decide +kernel
theorem k104_17 : lkc 17 (kcode 104) = some (.if_icmp .lt 5) := by decide +kernel
theorem k104_20 : lkc 20 (kcode 104) = some (.iconst 0) := by decide +kernel
theorem k104_21 : lkc 21 (kcode 104) = some (.ireturn) := by decide +kernel
theorem k104_22 : lkc 22 (kcode 104) = some (.aload_n 0) := by decide +kernel
theorem k104_23 : lkc 23 (kcode 104) = some (.getfield 38) := by decide +kernel
theorem k104_26 : lkc 26 (kcode 104) = some (.iload_n 1) := by decide +kernel
theorem k104_27 : lkc 27 (kcode 104) = some (.putfield 213) := by decide +kernel
theorem k104_30 : lkc 30 (kcode 104) = some (.iconst 1) := by decide +kernel
theorem k104_31 : lkc 31 (kcode 104) = some (.ireturn) := by decide +kernel
theorem k160_0 : lkc 0 (kcode 160) = some (.aload_n 0) := by decide +kernel
theorem k160_1 : lkc 1 (kcode 160) = some (.iconst 0) := by decide +kernel
theorem k160_2 : lkc 2 (kcode 160) = some (.putfield 90) := by decide +kernel
theorem k160_5 : lkc 5 (kcode 160) = some (.aload_n 0) := by decide +kernel
theorem k160_6 : lkc 6 (kcode 160) = some (.getfield 103) := by decide +kernel
theorem k160_9 : lkc 9 (kcode 160) = some (.iload_n 1) := by decide +kernel
theorem k160_10 : lkc 10 (kcode 160) = some (.invokestatic 105) := by decide +kernel
theorem k160_13 : lkc 13 (kcode 160) = some (.iadd) := by decide +kernel
theorem k160_14 : lkc 14 (kcode 160) = some (.iload_n 2) := by decide +kernel
theorem k160_15 : lkc 15 (kcode 160) = some (.invokestatic 105) := by decide +kernel
theorem k160_18 : lkc 18 (kcode 160) = some (.iadd) := by decide +kernel
theorem k160_19 : lkc 19 (kcode 160) = some (.iload_n 3) := by decide +kernel
theorem k160_20 : lkc 20 (kcode 160) = some (.invokestatic 105) := by decide +kernel
theorem k160_23 : lkc 23 (kcode 160) = some (.iadd) := by decide +kernel
theorem k160_24 : lkc 24 (kcode 160) = some (.iload 4) := by decide +kernel
theorem k160_26 : lkc 26 (kcode 160) = some (.invokestatic 105) := by decide +kernel
theorem k160_29 : lkc 29 (kcode 160) = some (.iadd) := by decide +kernel
theorem k160_30 : lkc 30 (kcode 160) = some (.iload 5) := by decide +kernel
theorem k160_32 : lkc 32 (kcode 160) = some (.invokestatic 105) := by decide +kernel
theorem k160_35 : lkc 35 (kcode 160) = some (.iadd) := by decide +kernel
theorem k160_36 : lkc 36 (kcode 160) = some (.sipush 240) := by decide +kernel
theorem k160_39 : lkc 39 (kcode 160) = some (.if_icmp .le 5) := by decide +kernel
theorem k160_42 : lkc 42 (kcode 160) = some (.iconst (-1)) := by decide +kernel
theorem k160_43 : lkc 43 (kcode 160) = some (.ireturn) := by decide +kernel
theorem k160_44 : lkc 44 (kcode 160) = some (.aload_n 0) := by decide +kernel
theorem k160_45 : lkc 45 (kcode 160) = some (.iload_n 1) := by decide +kernel
theorem k160_46 : lkc 46 (kcode 160) = some (.invokevirtual 109) := by decide +kernel
theorem k160_49 : lkc 49 (kcode 160) = some (.aload_n 0) := by decide +kernel
theorem k160_50 : lkc 50 (kcode 160) = some (.iload_n 2) := by decide +kernel
theorem k160_51 : lkc 51 (kcode 160) = some (.invokevirtual 109) := by decide +kernel
theorem k160_54 : lkc 54 (kcode 160) = some (.aload_n 0) := by decide +kernel
theorem k160_55 : lkc 55 (kcode 160) = some (.iload_n 3) := by decide +kernel
theorem k160_56 : lkc 56 (kcode 160) = some (.invokevirtual 109) := by decide +kernel
theorem k160_59 : lkc 59 (kcode 160) = some (.aload_n 0) := by decide +kernel
theorem k160_60 : lkc 60 (kcode 160) = some (.iload 4) := by decide +kernel
theorem k160_62 : lkc 62 (kcode 160) = some (.invokevirtual 109) := by decide +kernel
theorem k160_65 : lkc 65 (kcode 160) = some (.aload_n 0) := by decide +kernel
theorem k160_66 : lkc 66 (kcode 160) = some (.iload 5) := by decide +kernel
theorem k160_68 : lkc 68 (kcode 160) = some (.invokevirtual 109) := by decide +kernel
theorem k160_71 : lkc 71 (kcode 160) = some (.aload_n 0) := by decide +kernel
theorem k160_72 : lkc 72 (kcode 160) = some (.getfield 103) := by decide +kernel
theorem k160_75 : lkc 75 (kcode 160) = some (.ireturn) := by decide +kernel
theorem k161_0 : lkc 0 (kcode 161) = some (.aload_n 0) := by decide +kernel
theorem k161_1 : lkc 1 (kcode 161) = some (.iconst 0) := by decide +kernel
theorem k161_2 : lkc 2 (kcode 161) = some (.putfield 90) := by decide +kernel
theorem k161_5 : lkc 5 (kcode 161) = some (.iload_n 1) := by decide +kernel
theorem k161_6 : lkc 6 (kcode 161) = some (.ifCond .lt 11) := by decide +kernel
theorem k161_9 : lkc 9 (kcode 161) = some (.iload_n 1) := by decide +kernel
theorem k161_10 : lkc 10 (kcode 161) = some (.aload_n 0) := by decide +kernel
theorem k161_11 : lkc 11 (kcode 161) = some (.getfield 103) := by decide +kernel
theorem k161_14 : lkc 14 (kcode 161) = some (.if_icmp .le 5) := by decide +kernel
theorem k161_17 : lkc 17 (kcode 161) = some (.iconst 0) := by decide +kernel
theorem k161_18 : lkc 18 (kcode 161) = some (.ireturn) := by decide +kernel
theorem k161_19 : lkc 19 (kcode 161) = some (.aload_n 0) := by decide +kernel
theorem k161_20 : lkc 20 (kcode 161) = some (.iload_n 1) := by decide +kernel
theorem k161_21 : lkc 21 (kcode 161) = some (.putfield 103) := by decide +kernel
theorem k161_24 : lkc 24 (kcode 161) = some (.iconst 1) := by decide +kernel
theorem k161_25 : lkc 25 (kcode 161) = some (.ireturn) := by decide +kernel
theorem k208_0 : lkc 0 (kcode 208) = some (.aload_n 0) := by decide +kernel
theorem k208_1 : lkc 1 (kcode 208) = some (.iconst 0) := by decide +kernel
theorem k208_2 : lkc 2 (kcode 208) = some (.putfield 90) := by decide +kernel
theorem k208_5 : lkc 5 (kcode 208) = some (.iload_n 1) := by decide +kernel
theorem k208_6 : lkc 6 (kcode 208) = some (.iconst (-1)) := by decide +kernel
theorem k208_7 : lkc 7 (kcode 208) = some (.if_icmp .eq 21) := by decide +kernel
theorem k208_10 : lkc 10 (kcode 208) = some (.iload_n 1) := by decide +kernel
theorem k208_11 : lkc 11 (kcode 208) = some (.i2l) := by decide +kernel
theorem k208_12 : lkc 12 (kcode 208) = some (.lconst 0) := by decide +kernel
theorem k208_13 : lkc 13 (kcode 208) = some (.aload_n 0) := by decide +kernel
theorem k208_14 : lkc 14 (kcode 208) = some (.getfield 272) := by decide +kernel
theorem k208_17 : lkc 17 (kcode 208) = some (.iconst 1) := by decide +kernel
theorem k208_18 : lkc 18 (kcode 208) = some (.isub) := by decide +kernel
theorem k208_19 : lkc 19 (kcode 208) = some (.i2l) := by decide +kernel
theorem k208_20 : lkc 20 (kcode 208) = some (.invokestatic 211) := by decide +kernel
theorem k208_23 : lkc 23 (kcode 208) = some (.ifCond .ne 5) := by decide +kernel
theorem k208_26 : lkc 26 (kcode 208) = some (.iconst 0) := by decide +kernel
theorem k208_27 : lkc 27 (kcode 208) = some (.ireturn) := by decide +kernel
theorem k208_28 : lkc 28 (kcode 208) = some (.aload_n 0) := by decide +kernel
theorem k208_29 : lkc 29 (kcode 208) = some (.iload_n 1) := by decide +kernel
theorem k208_30 : lkc 30 (kcode 208) = some (.putfield 64) := by decide +kernel
theorem k208_33 : lkc 33 (kcode 208) = some (.iconst 1) := by decide +kernel
theorem k208_34 : lkc 34 (kcode 208) = some (.ireturn) := by decide +kernel
/-! forward: feed, end, law, both sides -/
theorem c_feed {m : xM} {N : Nat} {t : Nat → Int32} {a b c e g : Int32} (hr : rS m) (h1 : m.1 1 1 = nI N) (h2 : m.1 2 = t) (hN : N ≤ 240) : fC 96 [.ref 0, .int a, .int b, .int c, .int e, .int g] m (fun rv m' => (240 < N + wnn a + wnn b + wnn c + wnn e + wnn g ∧ rv = some (.int (-1)) ∧ m' = m) ∨ (N + wnn a + wnn b + wnn c + wnn e + wnn g ≤ 240 ∧ rv = some (.int (nI (N + wnn a + wnn b + wnn c + wnn e + wnn g))) ∧ m'.1 1 1 = nI (N + wnn a + wnn b + wnn c + wnn e + wnn g) ∧ m'.1 2 = (pw4 wqq (pw4 wqq (pw4 wqq (pw4 wqq (pw4 wqq (N, t) a) b) c) e) g).2)) := by
  refine fC_of (by decide) (fun d n P H => ?_)
  have l1 := wnn_le a
  have l2 := wnn_le b
  have l3 := wnn_le c
  have l4 := wnn_le e
  have l5 := wnn_le g
  replace H := f_iload_n H k96_0 rfl
  obtain ⟨rv, m', ⟨rfl, rfl⟩, h9_1⟩ := f_ins H k96_1 (by decide +kernel) (as := [.int _]) (r := []) (by rfl) (c_bytesOf)
  replace H := h9_1
  replace H := f_iload_n H k96_4 rfl
  obtain ⟨rv, m', ⟨rfl, rfl⟩, h9_5⟩ := f_ins H k96_5 (by decide +kernel) (as := [.int _]) (r := [.int _]) (by rfl) (c_bytesOf)
  replace H := h9_5
  replace H := f_iadd H k96_8
  replace H := f_iload_n H k96_9 rfl
  obtain ⟨rv, m', ⟨rfl, rfl⟩, h9_10⟩ := f_ins H k96_10 (by decide +kernel) (as := [.int _]) (r := [.int _]) (by rfl) (c_bytesOf)
  replace H := h9_10
  replace H := f_iadd H k96_13
  replace H := f_iload H k96_14 rfl
  obtain ⟨rv, m', ⟨rfl, rfl⟩, h9_16⟩ := f_ins H k96_16 (by decide +kernel) (as := [.int _]) (r := [.int _]) (by rfl) (c_bytesOf)
  replace H := h9_16
  replace H := f_iadd H k96_19
  replace H := f_iload H k96_20 rfl
  obtain ⟨rv, m', ⟨rfl, rfl⟩, h9_22⟩ := f_ins H k96_22 (by decide +kernel) (as := [.int _]) (r := [.int _]) (by rfl) (c_bytesOf)
  replace H := h9_22
  replace H := f_iadd H k96_25
  have r9 : ∀ x y : Nat, nI x + nI y = nI (x + y) := r_ad
  rw [r9, r9, r9, r9] at H
  replace H := f_istore H k96_26 (l2 := [(6, .int (nI (wnn a + wnn b + wnn c + wnn e + wnn g))), (0, .ref 0), (1, .int a), (2, .int b), (3, .int c), (4, .int e), (5, .int g)]) rfl
  replace H := f_aload_n H k96_28 rfl
  replace H := f_gr H k96_29 (ci := 11) (f := 0) (x := 1) (by decide +kernel) (by decide) (hr 0 0 1 rfl)
  replace H := f_gi H k96_32 (ci := 8) (f := 1) (by decide +kernel) (by decide)
  replace H := f_iload H k96_35 rfl
  replace H := f_iadd H k96_37
  replace H := f_sipush H k96_38 (v := 240) (by decide)
  rw [h1, r9] at H
  have Hbr := f_icmp_le H k96_41 (t := 46) (by decide)
  clear H
  rcases Hbr with ⟨c0, H⟩ | ⟨c0, H⟩
  · rw [Int32.le_iff_toInt_le, nI_toInt (by omega), show (240 : Int32).toInt = 240 by decide] at c0
    have e1 : N + wnn a + wnn b + wnn c + wnn e + wnn g ≤ 240 := by omega
    replace H := f_aload_n H k96_46 rfl
    replace H := f_gr H k96_47 (ci := 11) (f := 0) (x := 1) (by decide +kernel) (by decide) (hr 0 0 1 rfl)
    replace H := f_iload_n H k96_50 rfl
    obtain ⟨rv, m1, ⟨rfl, g1⟩, h9_51⟩ := f_inv H k96_51 (by decide +kernel) (as := [.int _]) (b := 1) (r := []) (by rfl) (c_append hr h1 h2 (by omega))
    replace H := h9_51
    have n1 := pw4_n wqq (N, t) a
    have e2 : (pw4 wqq (N, t) a).1 = N + wnn a := n1
    have hr := apP_r g1 hr
    replace H := f_aload_n H k96_54 rfl
    replace H := f_gr H k96_55 (ci := 11) (f := 0) (x := 1) (by decide +kernel) (by decide) (hr 0 0 1 rfl)
    replace H := f_iload_n H k96_58 rfl
    obtain ⟨rv, m2, ⟨rfl, g2⟩, h9_59⟩ := f_inv H k96_59 (by decide +kernel) (as := [.int _]) (b := 1) (r := []) (by rfl) (c_append hr (by rw [g1.2.2.1, e2]) g1.2.2.2 (by omega))
    replace H := h9_59
    have hr := apP_r g2 hr
    have f2 : pw4 wqq (N + wnn a, (pw4 wqq (N, t) a).2) b = pw4 wqq (pw4 wqq (N, t) a) b := by rw [← e2]
    rw [f2] at g2
    have e3 : (pw4 wqq (pw4 wqq (N, t) a) b).1 = N + wnn a + wnn b := by rw [pw4_n, e2]
    replace H := f_aload_n H k96_62 rfl
    replace H := f_gr H k96_63 (ci := 11) (f := 0) (x := 1) (by decide +kernel) (by decide) (hr 0 0 1 rfl)
    replace H := f_iload_n H k96_66 rfl
    obtain ⟨rv, m3, ⟨rfl, g3⟩, h9_67⟩ := f_inv H k96_67 (by decide +kernel) (as := [.int _]) (b := 1) (r := []) (by rfl) (c_append hr (by rw [g2.2.2.1, e3]) g2.2.2.2 (by omega))
    replace H := h9_67
    have hr := apP_r g3 hr
    have f3 : pw4 wqq (N + wnn a + wnn b, (pw4 wqq (pw4 wqq (N, t) a) b).2) c = pw4 wqq (pw4 wqq (pw4 wqq (N, t) a) b) c := by rw [← e3]
    rw [f3] at g3
    have e4 : (pw4 wqq (pw4 wqq (pw4 wqq (N, t) a) b) c).1 = N + wnn a + wnn b + wnn c := by rw [pw4_n, e3]
    replace H := f_aload_n H k96_70 rfl
    replace H := f_gr H k96_71 (ci := 11) (f := 0) (x := 1) (by decide +kernel) (by decide) (hr 0 0 1 rfl)
    replace H := f_iload H k96_74 rfl
    obtain ⟨rv, m4, ⟨rfl, g4⟩, h9_76⟩ := f_inv H k96_76 (by decide +kernel) (as := [.int _]) (b := 1) (r := []) (by rfl) (c_append hr (by rw [g3.2.2.1, e4]) g3.2.2.2 (by omega))
    replace H := h9_76
    have hr := apP_r g4 hr
    have f4 : pw4 wqq (N + wnn a + wnn b + wnn c, (pw4 wqq (pw4 wqq (pw4 wqq (N, t) a) b) c).2) e = pw4 wqq (pw4 wqq (pw4 wqq (pw4 wqq (N, t) a) b) c) e := by rw [← e4]
    rw [f4] at g4
    have e5 : (pw4 wqq (pw4 wqq (pw4 wqq (pw4 wqq (N, t) a) b) c) e).1 = N + wnn a + wnn b + wnn c + wnn e := by rw [pw4_n, e4]
    replace H := f_aload_n H k96_79 rfl
    replace H := f_gr H k96_80 (ci := 11) (f := 0) (x := 1) (by decide +kernel) (by decide) (hr 0 0 1 rfl)
    replace H := f_iload H k96_83 rfl
    obtain ⟨rv, m5, ⟨rfl, g5⟩, h9_85⟩ := f_inv H k96_85 (by decide +kernel) (as := [.int _]) (b := 1) (r := []) (by rfl) (c_append hr (by rw [g4.2.2.1, e5]) g4.2.2.2 (by omega))
    replace H := h9_85
    have hr := apP_r g5 hr
    have f5 : pw4 wqq (N + wnn a + wnn b + wnn c + wnn e, (pw4 wqq (pw4 wqq (pw4 wqq (pw4 wqq (N, t) a) b) c) e).2) g = pw4 wqq (pw4 wqq (pw4 wqq (pw4 wqq (pw4 wqq (N, t) a) b) c) e) g := by rw [← e5]
    rw [f5] at g5
    have e6 : (pw4 wqq (pw4 wqq (pw4 wqq (pw4 wqq (pw4 wqq (N, t) a) b) c) e) g).1 = N + wnn a + wnn b + wnn c + wnn e + wnn g := by rw [pw4_n, e5]
    have g6 := g5.2.2.1
    rw [e6] at g6
    replace H := f_aload_n H k96_88 rfl
    replace H := f_gr H k96_89 (ci := 11) (f := 0) (x := 1) (by decide +kernel) (by decide) (hr 0 0 1 rfl)
    replace H := f_gi H k96_92 (ci := 8) (f := 1) (by decide +kernel) (by decide)
    rw [g6] at H
    replace H := f_iret H k96_95
    exact ⟨_, _, H, Or.inr ⟨e1, rfl, g6, g5.2.2.2⟩⟩
  · rw [Int32.le_iff_toInt_le, nI_toInt (by omega), show (240 : Int32).toInt = 240 by decide] at c0
    replace H := f_iconst H k96_44 (v := -1) (by decide)
    replace H := f_iret H k96_45
    exact ⟨_, _, H, Or.inl ⟨by omega, rfl, rfl⟩⟩
theorem c_mfeed {m : xM} {N : Nat} {u : Nat → Int32} {a b c e g : Int32} (hr : rS m) (h1 : m.1 314 6 = nI N) (h2 : m.1 315 = u) (hN : N ≤ 240) : fC 160 [.ref 314, .int a, .int b, .int c, .int e, .int g] m (fun rv m' => (240 < N + wnn a + wnn b + wnn c + wnn e + wnn g ∧ rv = some (.int (-1)) ∧ m' = mI m 314 0 0) ∨ (N + wnn a + wnn b + wnn c + wnn e + wnn g ≤ 240 ∧ rv = some (.int (nI (N + wnn a + wnn b + wnn c + wnn e + wnn g))) ∧ m'.1 314 6 = nI (N + wnn a + wnn b + wnn c + wnn e + wnn g) ∧ m'.1 315 = (pw4 sb (pw4 sb (pw4 sb (pw4 sb (pw4 sb (N, u) a) b) c) e) g).2)) := by
  refine fC_of (by decide) (fun d n P H => ?_)
  have l1 := wnn_le a
  have l2 := wnn_le b
  have l3 := wnn_le c
  have l4 := wnn_le e
  have l5 := wnn_le g
  replace H := f_aload_n H k160_0 rfl
  replace H := f_iconst H k160_1 (v := 0) (by decide)
  replace H := f_put_i H k160_2 (ci := 12) (f := 0) (by decide +kernel) (by decide)
  have h1 : (mI m 314 0 0).1 314 6 = nI N := by rw [mI_ne (by omega)]; exact h1
  have h2 : (mI m 314 0 0).1 315 = u := by rw [← h2]; exact funext fun j => mI_ne (by omega)
  have hr : rS (mI m 314 0 0) := hr
  replace H := f_aload_n H k160_5 rfl
  replace H := f_gi H k160_6 (ci := 12) (f := 6) (by decide +kernel) (by decide)
  replace H := f_iload_n H k160_9 rfl
  rw [h1] at H
  obtain ⟨rv, m', ⟨rfl, rfl⟩, h9_10⟩ := f_ins H k160_10 (by decide +kernel) (as := [.int _]) (r := [.int _]) (by rfl) (c_bytesIn)
  replace H := h9_10
  replace H := f_iadd H k160_13
  replace H := f_iload_n H k160_14 rfl
  obtain ⟨rv, m', ⟨rfl, rfl⟩, h9_15⟩ := f_ins H k160_15 (by decide +kernel) (as := [.int _]) (r := [.int _]) (by rfl) (c_bytesIn)
  replace H := h9_15
  replace H := f_iadd H k160_18
  replace H := f_iload_n H k160_19 rfl
  obtain ⟨rv, m', ⟨rfl, rfl⟩, h9_20⟩ := f_ins H k160_20 (by decide +kernel) (as := [.int _]) (r := [.int _]) (by rfl) (c_bytesIn)
  replace H := h9_20
  replace H := f_iadd H k160_23
  replace H := f_iload H k160_24 rfl
  obtain ⟨rv, m', ⟨rfl, rfl⟩, h9_26⟩ := f_ins H k160_26 (by decide +kernel) (as := [.int _]) (r := [.int _]) (by rfl) (c_bytesIn)
  replace H := h9_26
  replace H := f_iadd H k160_29
  replace H := f_iload H k160_30 rfl
  obtain ⟨rv, m', ⟨rfl, rfl⟩, h9_32⟩ := f_ins H k160_32 (by decide +kernel) (as := [.int _]) (r := [.int _]) (by rfl) (c_bytesIn)
  replace H := h9_32
  replace H := f_iadd H k160_35
  have r9 : ∀ x y : Nat, nI x + nI y = nI (x + y) := r_ad
  rw [r9, r9, r9, r9, r9] at H
  replace H := f_sipush H k160_36 (v := 240) (by decide)
  have Hbr := f_icmp_le H k160_39 (t := 44) (by decide)
  clear H
  rcases Hbr with ⟨c0, H⟩ | ⟨c0, H⟩
  · rw [Int32.le_iff_toInt_le, nI_toInt (by omega), show (240 : Int32).toInt = 240 by decide] at c0
    have e1 : N + wnn a + wnn b + wnn c + wnn e + wnn g ≤ 240 := by omega
    replace H := f_aload_n H k160_44 rfl
    replace H := f_iload_n H k160_45 rfl
    obtain ⟨rv, m1, ⟨rfl, g1⟩, h9_46⟩ := f_inv H k160_46 (by decide +kernel) (as := [.int _]) (b := 314) (r := []) (by rfl) (c_put hr h1 h2 (by omega))
    replace H := h9_46
    have n1 := pw4_n sb (N, u) a
    have e2 : (pw4 sb (N, u) a).1 = N + wnn a := n1
    have hr := apP_r g1 hr
    replace H := f_aload_n H k160_49 rfl
    replace H := f_iload_n H k160_50 rfl
    obtain ⟨rv, m2, ⟨rfl, g2⟩, h9_51⟩ := f_inv H k160_51 (by decide +kernel) (as := [.int _]) (b := 314) (r := []) (by rfl) (c_put hr (by rw [g1.2.2.1, e2]) g1.2.2.2 (by omega))
    replace H := h9_51
    have hr := apP_r g2 hr
    have f2 : pw4 sb (N + wnn a, (pw4 sb (N, u) a).2) b = pw4 sb (pw4 sb (N, u) a) b := by rw [← e2]
    rw [f2] at g2
    have e3 : (pw4 sb (pw4 sb (N, u) a) b).1 = N + wnn a + wnn b := by rw [pw4_n, e2]
    replace H := f_aload_n H k160_54 rfl
    replace H := f_iload_n H k160_55 rfl
    obtain ⟨rv, m3, ⟨rfl, g3⟩, h9_56⟩ := f_inv H k160_56 (by decide +kernel) (as := [.int _]) (b := 314) (r := []) (by rfl) (c_put hr (by rw [g2.2.2.1, e3]) g2.2.2.2 (by omega))
    replace H := h9_56
    have hr := apP_r g3 hr
    have f3 : pw4 sb (N + wnn a + wnn b, (pw4 sb (pw4 sb (N, u) a) b).2) c = pw4 sb (pw4 sb (pw4 sb (N, u) a) b) c := by rw [← e3]
    rw [f3] at g3
    have e4 : (pw4 sb (pw4 sb (pw4 sb (N, u) a) b) c).1 = N + wnn a + wnn b + wnn c := by rw [pw4_n, e3]
    replace H := f_aload_n H k160_59 rfl
    replace H := f_iload H k160_60 rfl
    obtain ⟨rv, m4, ⟨rfl, g4⟩, h9_62⟩ := f_inv H k160_62 (by decide +kernel) (as := [.int _]) (b := 314) (r := []) (by rfl) (c_put hr (by rw [g3.2.2.1, e4]) g3.2.2.2 (by omega))
    replace H := h9_62
    have hr := apP_r g4 hr
    have f4 : pw4 sb (N + wnn a + wnn b + wnn c, (pw4 sb (pw4 sb (pw4 sb (N, u) a) b) c).2) e = pw4 sb (pw4 sb (pw4 sb (pw4 sb (N, u) a) b) c) e := by rw [← e4]
    rw [f4] at g4
    have e5 : (pw4 sb (pw4 sb (pw4 sb (pw4 sb (N, u) a) b) c) e).1 = N + wnn a + wnn b + wnn c + wnn e := by rw [pw4_n, e4]
    replace H := f_aload_n H k160_65 rfl
    replace H := f_iload H k160_66 rfl
    obtain ⟨rv, m5, ⟨rfl, g5⟩, h9_68⟩ := f_inv H k160_68 (by decide +kernel) (as := [.int _]) (b := 314) (r := []) (by rfl) (c_put hr (by rw [g4.2.2.1, e5]) g4.2.2.2 (by omega))
    replace H := h9_68
    have hr := apP_r g5 hr
    have f5 : pw4 sb (N + wnn a + wnn b + wnn c + wnn e, (pw4 sb (pw4 sb (pw4 sb (pw4 sb (N, u) a) b) c) e).2) g = pw4 sb (pw4 sb (pw4 sb (pw4 sb (pw4 sb (N, u) a) b) c) e) g := by rw [← e5]
    rw [f5] at g5
    have e6 : (pw4 sb (pw4 sb (pw4 sb (pw4 sb (pw4 sb (N, u) a) b) c) e) g).1 = N + wnn a + wnn b + wnn c + wnn e + wnn g := by rw [pw4_n, e5]
    have g6 := g5.2.2.1
    rw [e6] at g6
    replace H := f_aload_n H k160_71 rfl
    replace H := f_gi H k160_72 (ci := 12) (f := 6) (by decide +kernel) (by decide)
    rw [g6] at H
    replace H := f_iret H k160_75
    exact ⟨_, _, H, Or.inr ⟨e1, rfl, g6, g5.2.2.2⟩⟩
  · rw [Int32.le_iff_toInt_le, nI_toInt (by omega), show (240 : Int32).toInt = 240 by decide] at c0
    replace H := f_iconst H k160_42 (v := -1) (by decide)
    replace H := f_iret H k160_43
    exact ⟨_, _, H, Or.inl ⟨by omega, rfl, rfl⟩⟩
theorem c_end {m : xM} {N : Nat} {z : Int32} (hr : rS m) (h1 : m.1 1 1 = nI N) : fC 97 [.ref 0, .int z] m (fun rv m' => (¬ (¬ z < 0 ∧ z ≤ nI N) ∧ rv = some (.int 0) ∧ m' = m) ∨ ((¬ z < 0 ∧ z ≤ nI N) ∧ rv = some (.int 1) ∧ m' = mI m 1 1 z)) := by
  refine fC_of (by decide) (fun d n P H => ?_)
  replace H := f_iload_n H k97_0 rfl
  have Hbr := f_if_lt H k97_1 (t := 15) (by decide)
  clear H
  rcases Hbr with ⟨c0, H⟩ | ⟨c0, H⟩
  · replace H := f_iconst H k97_15 (v := 0) (by decide)
    replace H := f_iret H k97_16
    exact ⟨_, _, H, Or.inl ⟨fun q => q.1 c0, rfl, rfl⟩⟩
  · replace H := f_iload_n H k97_4 rfl
    replace H := f_aload_n H k97_5 rfl
    replace H := f_gr H k97_6 (ci := 11) (f := 0) (x := 1) (by decide +kernel) (by decide) (hr 0 0 1 rfl)
    replace H := f_gi H k97_9 (ci := 8) (f := 1) (by decide +kernel) (by decide)
    rw [h1] at H
    have Hbr := f_icmp_le H k97_12 (t := 17) (by decide)
    clear H
    rcases Hbr with ⟨c2, H⟩ | ⟨c2, H⟩
    · replace H := f_aload_n H k97_17 rfl
      replace H := f_gr H k97_18 (ci := 11) (f := 0) (x := 1) (by decide +kernel) (by decide) (hr 0 0 1 rfl)
      replace H := f_iload_n H k97_21 rfl
      replace H := f_put_i H k97_22 (ci := 8) (f := 1) (by decide +kernel) (by decide)
      replace H := f_iconst H k97_25 (v := 1) (by decide)
      replace H := f_iret H k97_26
      exact ⟨_, _, H, Or.inr ⟨⟨c0, c2⟩, rfl, rfl⟩⟩
    · replace H := f_iconst H k97_15 (v := 0) (by decide)
      replace H := f_iret H k97_16
      exact ⟨_, _, H, Or.inl ⟨fun q => c2 q.2, rfl, rfl⟩⟩
theorem c_mend {m : xM} {N : Nat} {z : Int32} (h1 : m.1 314 6 = nI N) : fC 161 [.ref 314, .int z] m (fun rv m' => (¬ (¬ z < 0 ∧ z ≤ nI N) ∧ rv = some (.int 0) ∧ m' = mI m 314 0 0) ∨ ((¬ z < 0 ∧ z ≤ nI N) ∧ rv = some (.int 1) ∧ m' = mI (mI m 314 0 0) 314 6 z)) := by
  refine fC_of (by decide) (fun d n P H => ?_)
  replace H := f_aload_n H k161_0 rfl
  replace H := f_iconst H k161_1 (v := 0) (by decide)
  replace H := f_put_i H k161_2 (ci := 12) (f := 0) (by decide +kernel) (by decide)
  replace H := f_iload_n H k161_5 rfl
  have Hbr := f_if_lt H k161_6 (t := 17) (by decide)
  clear H
  rcases Hbr with ⟨c0, H⟩ | ⟨c0, H⟩
  · replace H := f_iconst H k161_17 (v := 0) (by decide)
    replace H := f_iret H k161_18
    exact ⟨_, _, H, Or.inl ⟨fun q => q.1 c0, rfl, rfl⟩⟩
  · replace H := f_iload_n H k161_9 rfl
    replace H := f_aload_n H k161_10 rfl
    replace H := f_gi H k161_11 (ci := 12) (f := 6) (by decide +kernel) (by decide)
    rw [mI_ne (by omega), h1] at H
    have Hbr := f_icmp_le H k161_14 (t := 19) (by decide)
    clear H
    rcases Hbr with ⟨c2, H⟩ | ⟨c2, H⟩
    · replace H := f_aload_n H k161_19 rfl
      replace H := f_iload_n H k161_20 rfl
      replace H := f_put_i H k161_21 (ci := 12) (f := 6) (by decide +kernel) (by decide)
      replace H := f_iconst H k161_24 (v := 1) (by decide)
      replace H := f_iret H k161_25
      exact ⟨_, _, H, Or.inr ⟨⟨c0, c2⟩, rfl, rfl⟩⟩
    · replace H := f_iconst H k161_17 (v := 0) (by decide)
      replace H := f_iret H k161_18
      exact ⟨_, _, H, Or.inl ⟨fun q => c2 q.2, rfl, rfl⟩⟩
theorem c_law {m : xM} {L : Nat} {z : Int32} (hr : rS m) (h1 : m.1 47 4 = nI L) : fC 104 [.ref 0, .int z] m (fun rv m' => (¬ (z = -1 ∨ (¬ z < 0 ∧ z < nI L)) ∧ rv = some (.int 0) ∧ m' = m) ∨ ((z = -1 ∨ (¬ z < 0 ∧ z < nI L)) ∧ rv = some (.int 1) ∧ m' = mI m 47 5 z)) := by
  refine fC_of (by decide) (fun d n P H => ?_)
  replace H := f_iload_n H k104_0 rfl
  replace H := f_iconst H k104_1 (v := -1) (by decide)
  have Hbr := f_icmp_eq H k104_2 (t := 22) (by decide)
  clear H
  rcases Hbr with ⟨c0, H⟩ | ⟨c0, H⟩
  · replace H := f_aload_n H k104_22 rfl
    replace H := f_gr H k104_23 (ci := 11) (f := 4) (x := 47) (by decide +kernel) (by decide) (hr 0 4 47 rfl)
    replace H := f_iload_n H k104_26 rfl
    replace H := f_put_i H k104_27 (ci := 3) (f := 5) (by decide +kernel) (by decide)
    replace H := f_iconst H k104_30 (v := 1) (by decide)
    replace H := f_iret H k104_31
    exact ⟨_, _, H, Or.inr ⟨Or.inl c0, rfl, rfl⟩⟩
  · replace H := f_iload_n H k104_5 rfl
    have Hbr := f_if_lt H k104_6 (t := 20) (by decide)
    clear H
    rcases Hbr with ⟨c1, H⟩ | ⟨c1, H⟩
    · replace H := f_iconst H k104_20 (v := 0) (by decide)
      replace H := f_iret H k104_21
      exact ⟨_, _, H, Or.inl ⟨fun q => q.elim c0 (fun w => w.1 c1), rfl, rfl⟩⟩
    · replace H := f_iload_n H k104_9 rfl
      replace H := f_aload_n H k104_10 rfl
      replace H := f_gr H k104_11 (ci := 11) (f := 4) (x := 47) (by decide +kernel) (by decide) (hr 0 4 47 rfl)
      replace H := f_gi H k104_14 (ci := 3) (f := 4) (by decide +kernel) (by decide)
      rw [h1] at H
      have Hbr := f_icmp_lt H k104_17 (t := 22) (by decide)
      clear H
      rcases Hbr with ⟨c2, H⟩ | ⟨c2, H⟩
      · replace H := f_aload_n H k104_22 rfl
        replace H := f_gr H k104_23 (ci := 11) (f := 4) (x := 47) (by decide +kernel) (by decide) (hr 0 4 47 rfl)
        replace H := f_iload_n H k104_26 rfl
        replace H := f_put_i H k104_27 (ci := 3) (f := 5) (by decide +kernel) (by decide)
        replace H := f_iconst H k104_30 (v := 1) (by decide)
        replace H := f_iret H k104_31
        exact ⟨_, _, H, Or.inr ⟨Or.inr ⟨c1, c2⟩, rfl, rfl⟩⟩
      · replace H := f_iconst H k104_20 (v := 0) (by decide)
        replace H := f_iret H k104_21
        exact ⟨_, _, H, Or.inl ⟨fun q => q.elim c0 (fun w => c2 w.2), rfl, rfl⟩⟩
theorem c_isInK {m : xM} {v l mo : Int32} {lo hi : Int64} (hl : l.toInt64 = lo) (hm : mo.toInt64 = hi) : fC 155 [.long v.toInt64, .long lo, .long hi] m (fun rv m' => ((l ≤ v ∧ v ≤ mo ∧ rv = some (.int 1)) ∨ ((v < l ∨ mo < v) ∧ rv = some (.int 0))) ∧ m = m') := by
  subst hl hm
  exact c_isInI
theorem c_mlaw {m : xM} {L : Nat} {z : Int32} (hL : L ≤ 4) (h1 : m.1 314 7 = nI L) : fC 208 [.ref 314, .int z] m (fun rv m' => (¬ (z = -1 ∨ (¬ z < 0 ∧ z < nI L)) ∧ rv = some (.int 0) ∧ m' = mI m 314 0 0) ∨ ((z = -1 ∨ (¬ z < 0 ∧ z < nI L)) ∧ rv = some (.int 1) ∧ m' = mI (mI m 314 0 0) 314 34 z)) := by
  refine fC_of (by decide) (fun d n P H => ?_)
  have k0 : (0 : Int32).toInt = 0 := by decide
  have kl : (nI L - 1).toInt = (L : Int) - 1 := by
    have h5 : L = 0 ∨ L = 1 ∨ L = 2 ∨ L = 3 ∨ L = 4 := by omega
    rcases h5 with rfl | rfl | rfl | rfl | rfl <;> decide
  replace H := f_aload_n H k208_0 rfl
  replace H := f_iconst H k208_1 (v := 0) (by decide)
  replace H := f_put_i H k208_2 (ci := 12) (f := 0) (by decide +kernel) (by decide)
  replace H := f_iload_n H k208_5 rfl
  replace H := f_iconst H k208_6 (v := -1) (by decide)
  have Hbr := f_icmp_eq H k208_7 (t := 28) (by decide)
  clear H
  rcases Hbr with ⟨c0, H⟩ | ⟨c0, H⟩
  · replace H := f_aload_n H k208_28 rfl
    replace H := f_iload_n H k208_29 rfl
    replace H := f_put_i H k208_30 (ci := 12) (f := 34) (by decide +kernel) (by decide)
    replace H := f_iconst H k208_33 (v := 1) (by decide)
    replace H := f_iret H k208_34
    exact ⟨_, _, H, Or.inr ⟨Or.inl c0, rfl, rfl⟩⟩
  · replace H := f_iload_n H k208_10 rfl
    replace H := f_i2l H k208_11
    replace H := f_lconst H k208_12 (v := 0) (by decide)
    replace H := f_aload_n H k208_13 rfl
    replace H := f_gi H k208_14 (ci := 12) (f := 7) (by decide +kernel) (by decide)
    replace H := f_iconst H k208_17 (v := 1) (by decide)
    replace H := f_isub H k208_18
    replace H := f_i2l H k208_19
    rw [mI_ne (by omega), h1] at H
    obtain ⟨rv, m', ⟨ho, rfl⟩, h9_20⟩ := f_ins H k208_20 (by decide +kernel) (as := [.long _, .long _, .long _]) (r := []) (by rfl) (c_isInK (v := z) (l := 0) (mo := nI L - 1) (by decide) rfl)
    replace H := h9_20
    rcases ho with ⟨o1, o2, rfl⟩ | ⟨o1, rfl⟩
    · replace H := f_if_ne_t H k208_23 (by decide) (t := 28) (by decide)
      replace H := f_aload_n H k208_28 rfl
      replace H := f_iload_n H k208_29 rfl
      replace H := f_put_i H k208_30 (ci := 12) (f := 34) (by decide +kernel) (by decide)
      replace H := f_iconst H k208_33 (v := 1) (by decide)
      replace H := f_iret H k208_34
      refine ⟨_, _, H, Or.inr ⟨Or.inr ⟨fun q => ?_, ?_⟩, rfl, rfl⟩⟩
      · rw [Int32.lt_iff_toInt_lt] at q
        rw [Int32.le_iff_toInt_le] at o1
        omega
      · rw [Int32.le_iff_toInt_le, kl] at o2
        rw [Int32.lt_iff_toInt_lt, nI_toInt (by omega)]
        omega
    · replace H := f_if_ne_f H k208_23 rfl
      replace H := f_iconst H k208_26 (v := 0) (by decide)
      replace H := f_iret H k208_27
      refine ⟨_, _, H, Or.inl ⟨fun q => q.elim c0 (fun w => ?_), rfl, rfl⟩⟩
      obtain ⟨w1, w2⟩ := w
      rw [Int32.lt_iff_toInt_lt] at w1 w2
      rw [nI_toInt (by omega)] at w2
      rcases o1 with o1 | o1 <;> rw [Int32.lt_iff_toInt_lt] at o1
      · omega
      · omega
theorem k98_0 : lkc 0 (kcode 98) = some (.iload_n 1) := by decide +kernel
theorem k98_28 : lkc 28 (kcode 98) = some (.aload_n 0) := by decide +kernel
theorem k98_29 : lkc 29 (kcode 98) = some (.getfield 23) := by decide +kernel
theorem k98_32 : lkc 32 (kcode 98) = some (.aload_n 0) := by decide +kernel
theorem k98_33 : lkc 33 (kcode 98) = some (.getfield 10) := by decide +kernel
theorem k98_36 : lkc 36 (kcode 98) = some (.invokevirtual 117) := by decide +kernel
theorem k98_39 : lkc 39 (kcode 98) = some (.ireturn) := by decide +kernel
theorem k98_40 : lkc 40 (kcode 98) = some (.aload_n 0) := by decide +kernel
theorem k98_41 : lkc 41 (kcode 98) = some (.getfield 31) := by decide +kernel
theorem k98_44 : lkc 44 (kcode 98) = some (.invokevirtual 121) := by decide +kernel
theorem k98_47 : lkc 47 (kcode 98) = some (.ireturn) := by decide +kernel
theorem k98_48 : lkc 48 (kcode 98) = some (.aload_n 0) := by decide +kernel
theorem k98_49 : lkc 49 (kcode 98) = some (.getfield 45) := by decide +kernel
theorem k98_52 : lkc 52 (kcode 98) = some (.aload_n 0) := by decide +kernel
theorem k98_53 : lkc 53 (kcode 98) = some (.getfield 10) := by decide +kernel
theorem k98_56 : lkc 56 (kcode 98) = some (.invokevirtual 125) := by decide +kernel
theorem k98_59 : lkc 59 (kcode 98) = some (.ireturn) := by decide +kernel
theorem k98_60 : lkc 60 (kcode 98) = some (.bipush (-2)) := by decide +kernel
theorem k98_62 : lkc 62 (kcode 98) = some (.ireturn) := by decide +kernel
theorem k190_0 : lkc 0 (kcode 190) = some (.aload_n 0) := by decide +kernel
theorem k190_1 : lkc 1 (kcode 190) = some (.iconst 0) := by decide +kernel
theorem k190_2 : lkc 2 (kcode 190) = some (.putfield 90) := by decide +kernel
theorem k190_5 : lkc 5 (kcode 190) = some (.iload_n 1) := by decide +kernel
theorem k190_6 : lkc 6 (kcode 190) = some (.i2l) := by decide +kernel
theorem k190_7 : lkc 7 (kcode 190) = some (.lconst 0) := by decide +kernel
theorem k190_8 : lkc 8 (kcode 190) = some (.ldc2_w 261) := by decide +kernel
theorem k190_11 : lkc 11 (kcode 190) = some (.invokestatic 211) := by decide +kernel
theorem k190_14 : lkc 14 (kcode 190) = some (.ifCond .ne 6) := by decide +kernel
theorem k190_17 : lkc 17 (kcode 190) = some (.bipush (-2)) := by decide +kernel
theorem k190_19 : lkc 19 (kcode 190) = some (.ireturn) := by decide +kernel
theorem k190_20 : lkc 20 (kcode 190) = some (.iload_n 1) := by decide +kernel
theorem k190_21 : lkc 21 (kcode 190) = some (.ifCond .ne 7) := by decide +kernel
theorem k190_24 : lkc 24 (kcode 190) = some (.aload_n 0) := by decide +kernel
theorem k190_25 : lkc 25 (kcode 190) = some (.invokevirtual 263) := by decide +kernel
theorem k190_28 : lkc 28 (kcode 190) = some (.iload_n 1) := by decide +kernel
theorem k190_29 : lkc 29 (kcode 190) = some (.iconst 1) := by decide +kernel
theorem k190_30 : lkc 30 (kcode 190) = some (.if_icmp .ne 16) := by decide +kernel
theorem k190_33 : lkc 33 (kcode 190) = some (.aload_n 0) := by decide +kernel
theorem k190_34 : lkc 34 (kcode 190) = some (.aload_n 0) := by decide +kernel
theorem k190_35 : lkc 35 (kcode 190) = some (.getfield 9) := by decide +kernel
theorem k190_38 : lkc 38 (kcode 190) = some (.iconst 0) := by decide +kernel
theorem k190_39 : lkc 39 (kcode 190) = some (.aload_n 0) := by decide +kernel
theorem k190_40 : lkc 40 (kcode 190) = some (.getfield 103) := by decide +kernel
theorem k190_43 : lkc 43 (kcode 190) = some (.invokevirtual 266) := by decide +kernel
theorem k190_46 : lkc 46 (kcode 190) = some (.iload_n 1) := by decide +kernel
theorem k190_47 : lkc 47 (kcode 190) = some (.iconst 2) := by decide +kernel
theorem k190_48 : lkc 48 (kcode 190) = some (.if_icmp .ne 7) := by decide +kernel
theorem k190_51 : lkc 51 (kcode 190) = some (.aload_n 0) := by decide +kernel
theorem k190_52 : lkc 52 (kcode 190) = some (.invokevirtual 269) := by decide +kernel
theorem k190_55 : lkc 55 (kcode 190) = some (.aload_n 0) := by decide +kernel
theorem k190_56 : lkc 56 (kcode 190) = some (.getfield 122) := by decide +kernel
theorem k190_59 : lkc 59 (kcode 190) = some (.ireturn) := by decide +kernel
/-! forward: fault, both sides -/
def FA (N : Nat) (t : Nat → Int32) (z v : Int32) : Prop := (z = 0 ∧ ∃ f r, twR N t f tw0 0 r ∧ ((∃ S, r = .inl S ∧ v = -1) ∨ ∃ w, r = .inr w ∧ w ≤ N ∧ v = nI w)) ∨ (z = 1 ∧ ((v = -1 ∧ ∃ h, Rok N t [.law] 0 h) ∨ ∃ w, v = nI w ∧ Rno N t [.law] 0 w)) ∨ (z = 2 ∧ v = wkV N t) ∨ (z ≠ 0 ∧ z ≠ 1 ∧ z ≠ 2 ∧ v = -2)
theorem FA_det {N : Nat} {t : Nat → Int32} {z v w : Int32} (h1 : FA N t z v) (h2 : FA N t z w) : v = w := by
  rcases h1 with ⟨a, f, r, q, p⟩ | ⟨a, p⟩ | ⟨a, p⟩ | ⟨a1, a2, a3, p⟩
  · subst a
    rcases h2 with ⟨-, g, r2, q2, p2⟩ | ⟨b, -⟩ | ⟨b, -⟩ | ⟨b, -⟩
    · have e := twR_det f g _ _ _ _ q q2
      subst e
      rcases p with ⟨S, e1, e2⟩ | ⟨x, e1, -, e2⟩ <;> rcases p2 with ⟨S2, e3, e4⟩ | ⟨x2, e3, -, e4⟩
      · rw [e2, e4]
      · rw [e1] at e3; cases e3
      · rw [e1] at e3; cases e3
      · rw [e1] at e3; cases e3; rw [e2, e4]
    · exact absurd b (by decide)
    · exact absurd b (by decide)
    · exact absurd rfl b
  · subst a
    rcases h2 with ⟨b, -⟩ | ⟨-, p2⟩ | ⟨b, -⟩ | ⟨-, b, -⟩
    · exact absurd b (by decide)
    · rcases p with ⟨e1, x, e2⟩ | ⟨x, e1, e2⟩ <;> rcases p2 with ⟨e3, x2, e4⟩ | ⟨x2, e3, e4⟩
      · rw [e1, e3]
      · have := Rn_det (e2 [] _ (Rn_nil x)) (e4 [])
        cases this
      · have := Rn_det (e4 [] _ (Rn_nil x2)) (e2 [])
        cases this
      · have := Rn_det (e2 []) (e4 [])
        cases this
        rw [e1, e3]
    · exact absurd b (by decide)
    · exact absurd rfl b
  · subst a
    rcases h2 with ⟨b, -⟩ | ⟨b, -⟩ | ⟨-, p2⟩ | ⟨-, -, b, -⟩
    · exact absurd b (by decide)
    · exact absurd b (by decide)
    · rw [p, p2]
    · exact absurd rfl b
  · rcases h2 with ⟨b, -⟩ | ⟨b, -⟩ | ⟨b, -⟩ | ⟨-, -, -, p2⟩
    · exact absurd b a1
    · exact absurd b a2
    · exact absurd b a3
    · rw [p, p2]
theorem k98_1 : lkc 1 (kcode 98) = some (.tableswitch 59 0 2 #[27, 39, 47]) := by decide +kernel
theorem c_fault {m : xM} {N : Nat} {t : Nat → Int32} {z : Int32} (hr : rS m) (h1 : m.1 1 1 = nI N) (hN : N ≤ 240) (h2 : m.1 2 = t) : fC 98 [.ref 0, .int z] m (fun rv m' => ∃ v, rv = some (.int v) ∧ FA N t z v ∧ (z = 0 → v = -1 → ∃ S f, twR N t f tw0 0 (.inl S) ∧ clF m' S ∧ snd S) ∧ (z = 2 → m'.1 55 3 = nI (wk0 N t).1 ∧ (∀ i, i < (wk0 N t).1 → m'.1 62 i = (wk0 N t).2.1 i) ∧ (wk0 N t).1 ≤ 16)) := by
  refine fC_of (by decide) (fun d n P H => ?_)
  have hz : ∀ k : Int32, z.toInt = k.toInt → z = k := fun k h => Int32.toInt_inj.mp h
  replace H := f_iload_n H k98_0 rfl
  rcases f_tsw H k98_1 with ⟨c, H⟩ | ⟨c1, c2, o, eo, H⟩
  · replace H : xF 98 (xw d) P n 60 [(0, .ref 0), (1, .int z)] [] m := H
    replace H := f_bipush H k98_60 (v := -2) (by decide)
    replace H := f_iret H k98_62
    have k0 : z ≠ 0 := fun q => by rw [q] at c; revert c; decide
    have k1 : z ≠ 1 := fun q => by rw [q] at c; revert c; decide
    have k2 : z ≠ 2 := fun q => by rw [q] at c; revert c; decide
    exact ⟨_, _, H, _, rfl, Or.inr (Or.inr (Or.inr ⟨k0, k1, k2, rfl⟩)), fun q => absurd q k0, fun q => absurd q k2⟩
  · have h3 : z = 0 ∨ z = 1 ∨ z = 2 := by
      have : z.toInt = 0 ∨ z.toInt = 1 ∨ z.toInt = 2 := by omega
      rcases this with e | e | e
      · exact Or.inl (hz 0 e)
      · exact Or.inr (Or.inl (hz 1 e))
      · exact Or.inr (Or.inr (hz 2 e))
    rcases h3 with rfl | rfl | rfl
    · have e : o = 27 := (Option.some.inj eo).symm
      subst e
      replace H : xF 98 (xw d) P n 28 [(0, .ref 0), (1, .int 0)] [] m := H
      replace H := f_aload_n H k98_28 rfl
      replace H := f_gr H k98_29 (ci := 11) (f := 2) (x := 24) (by decide +kernel) (by decide) (hr 0 2 24 rfl)
      replace H := f_aload_n H k98_32 rfl
      replace H := f_gr H k98_33 (ci := 11) (f := 0) (x := 1) (by decide +kernel) (by decide) (hr 0 0 1 rfl)
      obtain ⟨rv, m1, ⟨f, r, q, ho⟩, h9_36⟩ := f_inv H k98_36 (by decide +kernel) (as := [.ref 1]) (b := 24) (r := []) (by rfl) (c_readFromT h1 hN h2 hr)
      replace H := h9_36
      rcases ho with ⟨S, rfl, rfl, x1, x2⟩ | ⟨w, rfl, x1, rfl⟩
      · replace H := f_iret H k98_39
        exact ⟨_, _, H, _, rfl, Or.inl ⟨rfl, f, _, q, Or.inl ⟨S, rfl, rfl⟩⟩, fun _ _ => ⟨S, f, q, x1, x2⟩, fun q => absurd q (by decide)⟩
      · replace H := f_iret H k98_39
        exact ⟨_, _, H, _, rfl, Or.inl ⟨rfl, f, _, q, Or.inr ⟨w, rfl, x1, rfl⟩⟩, fun _ z => absurd z (nI_n1 x1 hN), fun q => absurd q (by decide)⟩
    · have e : o = 39 := (Option.some.inj eo).symm
      subst e
      replace H : xF 98 (xw d) P n 40 [(0, .ref 0), (1, .int 1)] [] m := H
      replace H := f_aload_n H k98_40 rfl
      replace H := f_gr H k98_41 (ci := 11) (f := 3) (x := 45) (by decide +kernel) (by decide) (hr 0 3 45 rfl)
      obtain ⟨rv, m1, ⟨-, ho⟩, h9_44⟩ := f_inv H k98_44 (by decide +kernel) (as := []) (b := 45) (r := []) (by rfl) (c_readLaw h1 hN h2 (hr 1 0 2 rfl) (hr 45 0 1 rfl) (hr 45 1 46 rfl))
      replace H := h9_44
      rcases ho with ⟨w, rfl, x1⟩ | ⟨w, rfl, x1⟩
      · replace H := f_iret H k98_47
        exact ⟨_, _, H, _, rfl, Or.inr (Or.inl ⟨rfl, Or.inl ⟨rfl, w, x1⟩⟩), fun q => absurd q (by decide), fun q => absurd q (by decide)⟩
      · replace H := f_iret H k98_47
        exact ⟨_, _, H, _, rfl, Or.inr (Or.inl ⟨rfl, Or.inr ⟨w, rfl, x1⟩⟩), fun q => absurd q (by decide), fun q => absurd q (by decide)⟩
    · have e : o = 47 := (Option.some.inj eo).symm
      subst e
      replace H : xF 98 (xw d) P n 48 [(0, .ref 0), (1, .int 2)] [] m := H
      replace H := f_aload_n H k98_48 rfl
      replace H := f_gr H k98_49 (ci := 11) (f := 5) (x := 55) (by decide +kernel) (by decide) (hr 0 5 55 rfl)
      replace H := f_aload_n H k98_52 rfl
      replace H := f_gr H k98_53 (ci := 11) (f := 0) (x := 1) (by decide +kernel) (by decide) (hr 0 0 1 rfl)
      obtain ⟨rv, m1, ⟨rfl, x1, x2, x3, -⟩, h9_56⟩ := f_inv H k98_56 (by decide +kernel) (as := [.ref 1]) (b := 55) (r := []) (by rfl) (c_readFromW h1 hN h2 hr)
      replace H := h9_56
      replace H := f_iret H k98_59
      exact ⟨_, _, H, _, rfl, Or.inr (Or.inr (Or.inl ⟨rfl, rfl⟩)), fun q => absurd q (by decide), fun _ => ⟨x1, x2, x3⟩⟩
theorem c_mfault {m : xM} {N : Nat} {u : Nat → Int32} {z : Int32} (hr : rS m) (h1 : m.1 314 6 = nI N) (hN : N ≤ 240) (h2 : m.1 315 = u) (hb : ∀ i, byR (u i)) : fC 190 [.ref 314, .int z] m (fun rv m' => ∃ v, rv = some (.int v) ∧ FA N (tt u) z v ∧ (z = 0 → v = -1 → ∃ S f, twR N (tt u) f tw0 0 (.inl S) ∧ mlS m' S ∧ snd S) ∧ (z = 2 → m'.1 325 4 = nI (wk0 N (tt u)).1 ∧ (∀ i, i < (wk0 N (tt u)).1 → m'.1 324 (64 + i) = (wk0 N (tt u)).2.1 i))) := by
  refine fC_of (by decide) (fun d n P H => ?_)
  have hz : ∀ k : Int32, z.toInt = k.toInt → z = k := fun k h => Int32.toInt_inj.mp h
  replace H := f_aload_n H k190_0 rfl
  replace H := f_iconst H k190_1 (v := 0) (by decide)
  replace H := f_put_i H k190_2 (ci := 12) (f := 0) (by decide +kernel) (by decide)
  have h1 : (mI m 314 0 0).1 314 6 = nI N := by rw [mI_ne (by omega)]; exact h1
  have h2 : (mI m 314 0 0).1 315 = u := by rw [← h2]; exact funext fun j => mI_ne (by omega)
  have hr : rS (mI m 314 0 0) := hr
  generalize mI m 314 0 0 = m at *
  replace H := f_iload_n H k190_5 rfl
  replace H := f_i2l H k190_6
  replace H := f_lconst H k190_7 (v := 0) (by decide)
  replace H := f_ldc2 H k190_8 (v := 2) (by decide +kernel)
  obtain ⟨rv, m', ⟨ho, rfl⟩, h9_11⟩ := f_ins H k190_11 (by decide +kernel) (as := [.long _, .long _, .long _]) (r := []) (by rfl) (c_isInK (v := z) (l := 0) (mo := 2) (by decide) (by decide))
  replace H := h9_11
  rcases ho with ⟨o1, o2, rfl⟩ | ⟨o1, rfl⟩
  · replace H := f_if_ne_t H k190_14 (by decide) (t := 20) (by decide)
    rw [Int32.le_iff_toInt_le] at o1 o2
    rw [show (0 : Int32).toInt = 0 by decide] at o1
    rw [show (2 : Int32).toInt = 2 by decide] at o2
    have h3 : z = 0 ∨ z = 1 ∨ z = 2 := by
      have : z.toInt = 0 ∨ z.toInt = 1 ∨ z.toInt = 2 := by omega
      rcases this with e | e | e
      · exact Or.inl (hz 0 e)
      · exact Or.inr (Or.inl (hz 1 e))
      · exact Or.inr (Or.inr (hz 2 e))
    rcases h3 with rfl | rfl | rfl
    · replace H := f_iload_n H k190_20 rfl
      replace H := f_if_ne_f H k190_21 (by decide)
      replace H := f_aload_n H k190_24 rfl
      obtain ⟨rv, m1, ⟨rfl, f, r, q, ho⟩, h9_25⟩ := f_inv H k190_25 (by decide +kernel) (as := []) (b := 314) (r := []) (by rfl) (c_readTown hr h2 hb hN h1)
      replace H := h9_25
      replace H := f_iload_n H k190_28 rfl
      replace H := f_iconst H k190_29 (v := 1) (by decide)
      replace H := f_icmp_ne_t H k190_30 (by decide) (t := 46) (by decide)
      replace H := f_iload_n H k190_46 rfl
      replace H := f_iconst H k190_47 (v := 2) (by decide)
      replace H := f_icmp_ne_t H k190_48 (by decide) (t := 55) (by decide)
      replace H := f_aload_n H k190_55 rfl
      replace H := f_gi H k190_56 (ci := 12) (f := 11) (by decide +kernel) (by decide)
      replace H := f_iret H k190_59
      refine ⟨_, _, H, _, rfl, Or.inl ⟨rfl, f, r, q, ?_⟩, fun _ e => ?_, fun q => absurd q (by decide)⟩
      · rcases ho with ⟨S, e1, e2, e3, e4⟩ | ⟨w, e1, e2, e3⟩
        · exact Or.inl ⟨S, e1, e2⟩
        · exact Or.inr ⟨w, e1, e2, e3⟩
      · rcases ho with ⟨S, e1, e2, e3, e4⟩ | ⟨w, e1, e2, e3⟩
        · exact ⟨S, f, by rw [← e1]; exact q, e3, e4⟩
        · exact absurd (e3.symm.trans e) (nI_n1 e2 hN)
    · replace H := f_iload_n H k190_20 rfl
      replace H := f_if_ne_t H k190_21 (by decide) (t := 28) (by decide)
      replace H := f_iload_n H k190_28 rfl
      replace H := f_iconst H k190_29 (v := 1) (by decide)
      replace H := f_icmp_ne_f H k190_30 rfl
      replace H := f_aload_n H k190_33 rfl
      replace H := f_aload_n H k190_34 rfl
      replace H := f_gr H k190_35 (ci := 12) (f := 1) (x := 315) (by decide +kernel) (by decide) (hr 314 1 315 rfl)
      replace H := f_iconst H k190_38 (v := 0) (by decide)
      replace H := f_aload_n H k190_39 rfl
      replace H := f_gi H k190_40 (ci := 12) (f := 6) (by decide +kernel) (by decide)
      rw [h1] at H
      obtain ⟨rv, m1, ⟨rfl, ho⟩, h9_43⟩ := f_inv H k190_43 (by decide +kernel) (as := [.ref 315, .int _, .int _]) (b := 314) (r := []) (by rfl) (c_goThrough hr h2 hb hN)
      replace H := h9_43
      replace H := f_iload_n H k190_46 rfl
      replace H := f_iconst H k190_47 (v := 2) (by decide)
      replace H := f_icmp_ne_t H k190_48 (by decide) (t := 55) (by decide)
      replace H := f_aload_n H k190_55 rfl
      replace H := f_gi H k190_56 (ci := 12) (f := 11) (by decide +kernel) (by decide)
      replace H := f_iret H k190_59
      refine ⟨_, _, H, _, rfl, Or.inr (Or.inl ⟨rfl, ?_⟩), fun q => absurd q (by decide), fun q => absurd q (by decide)⟩
      rcases ho with ⟨e1, w, e2⟩ | ⟨w, e1, -, e2⟩
      · exact Or.inl ⟨e1, w, e2⟩
      · exact Or.inr ⟨w, e1, e2⟩
    · replace H := f_iload_n H k190_20 rfl
      replace H := f_if_ne_t H k190_21 (by decide) (t := 28) (by decide)
      replace H := f_iload_n H k190_28 rfl
      replace H := f_iconst H k190_29 (v := 1) (by decide)
      replace H := f_icmp_ne_t H k190_30 (by decide) (t := 46) (by decide)
      replace H := f_iload_n H k190_46 rfl
      replace H := f_iconst H k190_47 (v := 2) (by decide)
      replace H := f_icmp_ne_f H k190_48 rfl
      replace H := f_aload_n H k190_51 rfl
      obtain ⟨rv, m1, ⟨rfl, x1, x2, x3⟩, h9_52⟩ := f_inv H k190_52 (by decide +kernel) (as := []) (b := 314) (r := []) (by rfl) (c_readWalk hr h2 hb hN h1)
      replace H := h9_52
      replace H := f_aload_n H k190_55 rfl
      replace H := f_gi H k190_56 (ci := 12) (f := 11) (by decide +kernel) (by decide)
      replace H := f_iret H k190_59
      exact ⟨_, _, H, _, rfl, Or.inr (Or.inr (Or.inl ⟨rfl, x1⟩)), fun q => absurd q (by decide), fun _ => ⟨x2, x3⟩⟩
  · replace H := f_if_ne_f H k190_14 rfl
    replace H := f_bipush H k190_17 (v := -2) (by decide)
    replace H := f_iret H k190_19
    rw [Int32.lt_iff_toInt_lt, Int32.lt_iff_toInt_lt] at o1
    have k0 : z ≠ 0 := fun q => by rw [q] at o1; revert o1; decide
    have k1 : z ≠ 1 := fun q => by rw [q] at o1; revert o1; decide
    have k2 : z ≠ 2 := fun q => by rw [q] at o1; revert o1; decide
    exact ⟨_, _, H, _, rfl, Or.inr (Or.inr (Or.inr ⟨k0, k1, k2, rfl⟩)), fun q => absurd q k0, fun q => absurd q k2⟩
