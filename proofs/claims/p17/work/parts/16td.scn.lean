/-! forward: the class's chapels -/
def ush (x k : Int32) : Int32 := (x.toUInt32 >>> (k.toUInt32 &&& Int32.toUInt32 31)).toInt32
def bc1 (x : Int32) : Int32 := x - (ush x 1 &&& 1431655765)
def bc2 (x : Int32) : Int32 := (x &&& 858993459) + (ush x 2 &&& 858993459)
def bc3 (x : Int32) : Int32 := (x + ush x 4) &&& 252645135
def bc4 (x : Int32) : Int32 := x + ush x 8
def bc5 (x : Int32) : Int32 := x + ush x 16
def bcE (x : Int32) : Int32 := bc5 (bc4 (bc3 (bc2 (bc1 x)))) &&& 63
set_option maxRecDepth 100000 in
theorem bcE_n : ∀ v : Fin 4096, bcE (nI v.val) = nI (pcv v.val 12) := by decide +kernel
theorem c_bitCount {m : xM} {v : Nat} (hv : v < 4096) : fC 264 [.int (nI v)] m (fun rv m' => rv = some (.int (nI (pcv v 12))) ∧ m = m') := by
  refine fC_of (by decide) (fun d n P H => ?_)
  rw [← bcE_n ⟨v, hv⟩]
  show ∃ rv m', P rv m' ∧ rv = some (.int (bcE (nI v))) ∧ m = m'
  generalize nI v = x at *
  replace H := f_iload_n H k264_0 rfl
  replace H := f_iload_n H k264_1 rfl
  replace H := f_iconst H k264_2 (v := 1) (by decide)
  replace H := f_iushr H k264_3
  replace H := f_ldc_w H k264_4 (v := 1431655765) (by decide +kernel)
  replace H := f_iand H k264_7
  replace H := f_isub H k264_8
  replace H := f_istore_n H k264_9 (l2 := [(0, .int _)]) rfl
  rw [show x - ((x.toUInt32 >>> ((1 : Int32).toUInt32 &&& Int32.toUInt32 31)).toInt32 &&& 1431655765) = bc1 x from rfl] at H
  replace H := f_iload_n H k264_10 rfl
  replace H := f_ldc_w H k264_11 (v := 858993459) (by decide +kernel)
  replace H := f_iand H k264_14
  replace H := f_iload_n H k264_15 rfl
  replace H := f_iconst H k264_16 (v := 2) (by decide)
  replace H := f_iushr H k264_17
  replace H := f_ldc_w H k264_18 (v := 858993459) (by decide +kernel)
  replace H := f_iand H k264_21
  replace H := f_iadd H k264_22
  replace H := f_istore_n H k264_23 (l2 := [(0, .int _)]) rfl
  replace H := f_iload_n H k264_24 rfl
  replace H := f_iload_n H k264_25 rfl
  replace H := f_iconst H k264_26 (v := 4) (by decide)
  replace H := f_iushr H k264_27
  replace H := f_iadd H k264_28
  replace H := f_ldc_w H k264_29 (v := 252645135) (by decide +kernel)
  replace H := f_iand H k264_32
  replace H := f_istore_n H k264_33 (l2 := [(0, .int _)]) rfl
  replace H := f_iload_n H k264_34 rfl
  replace H := f_iload_n H k264_35 rfl
  replace H := f_bipush H k264_36 (v := 8) (by decide)
  replace H := f_iushr H k264_38
  replace H := f_iadd H k264_39
  replace H := f_istore_n H k264_40 (l2 := [(0, .int _)]) rfl
  replace H := f_iload_n H k264_41 rfl
  replace H := f_iload_n H k264_42 rfl
  replace H := f_bipush H k264_43 (v := 16) (by decide)
  replace H := f_iushr H k264_45
  replace H := f_iadd H k264_46
  replace H := f_istore_n H k264_47 (l2 := [(0, .int _)]) rfl
  replace H := f_iload_n H k264_48 rfl
  replace H := f_bipush H k264_49 (v := 63) (by decide)
  replace H := f_iand H k264_51
  replace H := f_iret H k264_52
  exact ⟨_, _, H, rfl, rfl⟩
/-- a plan of the class: its object b, its rows' cells from r on, its touching's cell t -/
def xT (m : xM) (C S : Nat) (A B Y : Nat → Nat) : Prop := m.1 3 0 = nI C ∧ m.1 3 1 = nI S ∧ C ≤ 8 ∧ S ≤ 12 ∧ (∀ s, s < S → m.1 (6 + s) 0 = nI (A s) ∧ m.1 (6 + s) 1 = nI (B s) ∧ m.1 (6 + s) 2 = nI (Y s) ∧ A s < C ∧ B s < C ∧ A s ≠ B s ∧ 1 ≤ Y s ∧ Y s ≤ 40) ∧ ∀ c, c < 8 → m.1 23 c = nI (tchN A B c S)
theorem c_openBehind {m : xM} {C S w : Nat} {A B Y : Nat → Nat} (hr : rS m) (hT : xT m C S A B Y) : fC 52 [.ref 3, .int (nI w)] m (fun rv m' => rv = some (.int (nI (opb S w))) ∧ m = m') := by
  refine fC_of (by decide) (fun d n P H => ?_)
  obtain ⟨t1, t2, t3, t4, t5, t6⟩ := id hT
  replace H := f_iload_n H k52_0 rfl
  replace H := f_iconst H k52_1 (v := -1) (by decide)
  replace H := f_ixor H k52_2
  replace H := f_iconst H k52_3 (v := 1) (by decide)
  replace H := f_aload_n H k52_4 rfl
  replace H := f_gi H k52_5 (ci := 5) (f := 1) (by decide +kernel) (by decide)
  replace H := f_ishl H k52_8
  replace H := f_iconst H k52_9 (v := 1) (by decide)
  replace H := f_isub H k52_10
  replace H := f_iand H k52_11
  rw [t2, opb_n (by omega)] at H
  replace H := f_iret H k52_12
  exact ⟨_, _, H, rfl, rfl⟩
theorem c_chapelsAmong {m : xM} {C S w o : Nat} {A B Y : Nat → Nat} (hr : rS m) (hT : xT m C S A B Y) (ho : ∀ i, i < S → o.testBit i = !(w.testBit i)) : fC 53 [.ref 3, .int (nI o)] m (fun rv m' => rv = some (.int (nI (chp A B S w C))) ∧ m = m') := by
  refine fC_of (by decide) (fun d n P H => ?_)
  obtain ⟨t1, t2, t3, t4, t5, t6⟩ := id hT
  have key : ∀ n e, e ≤ C → xF 53 (xw d) P (n + 1) 4 [(3, .int (nI e)), (2, .int (nI (chp A B S w e))), (0, .ref 3), (1, .int (nI o))] [] m → ∃ rv m', P rv m' ∧ rv = some (.int (nI (chp A B S w C))) ∧ m = m' := by
    intro n
    induction n with
    | zero => exact fun e _ H => (xF_0 (f1_iload_n H k53_4 rfl)).elim
    | succ n ih =>
      intro e he H
      replace H := f1_iload_n H k53_4 rfl
      replace H := f_aload_n H k53_5 rfl
      replace H := f_gi H k53_6 (ci := 5) (f := 0) (by decide +kernel) (by decide)
      rw [t1] at H
      have Hbr := f_icmp_ge H k53_9 (t := 39) (by decide)
      clear H
      rcases Hbr with ⟨c0, H⟩ | ⟨c0, H⟩
      · rw [nxle (by omega) (by omega)] at c0
        have ee : e = C := by omega
        subst ee
        replace H := f_iload_n H k53_39 rfl
        replace H := f_iret H k53_40
        exact ⟨_, _, H, rfl, rfl⟩
      · rw [nxle (by omega) (by omega)] at c0
        have hop := opc_le (A := A) (B := B) (w := w) (c := e) S
        have hlt : o &&& tchN A B e S < 4096 := Nat.lt_of_le_of_lt Nat.and_le_right (Nat.lt_of_lt_of_le (tchN_lt S) (Nat.pow_le_pow_right (by omega) t4 : (2 : Nat) ^ S ≤ 2 ^ 12))
        replace H := f_iload_n H k53_12 rfl
        replace H := f_aload_n H k53_13 rfl
        replace H := f_gr H k53_14 (ci := 5) (f := 7) (x := 23) (by decide +kernel) (by decide) (hr 3 7 23 rfl)
        replace H := f_iload_n H k53_17 rfl
        have Hob := f_iald H k53_18 (c := 8) (by decide)
        clear H
        obtain ⟨hb18, H⟩ := Hob
        replace H := f_iand H k53_19
        rw [nI_clamp (by omega), t6 e (by omega), fa_and] at H
        obtain ⟨rv, m2, ⟨rfl, e3⟩, h9_20⟩ := f_ins H k53_20 (by decide +kernel) (as := [.int _]) (r := []) (by rfl) (c_bitCount hlt)
        replace H := h9_20
        rw [← e3, pcv_12 t4 ho] at H
        clear e3
        replace H := f_iconst H k53_23 (v := 1) (by decide)
        have Hbr := f_icmp_ne H k53_24 (t := 33) (by decide)
        clear H
        rcases Hbr with ⟨c1, H⟩ | ⟨c1, H⟩
        · have c2 : ¬ opc A B w e S = 1 := fun q => c1 (by rw [q]; rfl)
          rw [show chp A B S w e = chp A B S w (e + 1) by rw [chp_s, if_neg c2, Nat.or_zero]] at H
          replace H := f_iinc H k53_33 rfl (l2 := [(3, .int (nI e + 1)), (2, .int (nI (chp A B S w (e + 1)))), (0, .ref 3), (1, .int (nI o))]) rfl
          replace H := f_goto H k53_36 (t := 4) (by decide)
          rw [nI_s] at H
          exact ih (e + 1) (by omega) H
        · have c2 : opc A B w e S = 1 := by rw [show (1 : Int32) = nI 1 from rfl, nI_inj (by omega) (by omega)] at c1; exact c1
          replace H := f_iload_n H k53_27 rfl
          replace H := f_iconst H k53_28 (v := 1) (by decide)
          replace H := f_iload_n H k53_29 rfl
          replace H := f_ishl H k53_30
          replace H := f_ior H k53_31
          rw [shl_n (by omega), show nI (chp A B S w e) ||| nI (2 ^ e) = nI (chp A B S w (e + 1)) by rw [show chp A B S w (e + 1) = chp A B S w e ||| 2 ^ e by rw [chp_s, if_pos c2]]; exact fa_or _ _] at H
          replace H := f_istore_n H k53_32 (l2 := [(2, .int (nI (chp A B S w (e + 1)))), (3, .int (nI e)), (0, .ref 3), (1, .int (nI o))]) rfl
          replace H := f_iinc H k53_33 rfl (l2 := [(3, .int (nI e + 1)), (2, .int (nI (chp A B S w (e + 1)))), (0, .ref 3), (1, .int (nI o))]) rfl
          replace H := f_goto H k53_36 (t := 4) (by decide)
          rw [nI_s] at H
          exact ih (e + 1) (by omega) H
  replace H := f_iconst H k53_0 (v := 0) (by decide)
  replace H := f_istore_n H k53_1 (l2 := [(2, .int 0), (0, .ref 3), (1, .int (nI o))]) rfl
  replace H := f_iconst H k53_2 (v := 0) (by decide)
  replace H := f_istore_n H k53_3 (l2 := [(3, .int 0), (2, .int 0), (0, .ref 3), (1, .int (nI o))]) rfl
  exact key n 0 (Nat.zero_le _) (f_up H (Nat.le_succ _))
