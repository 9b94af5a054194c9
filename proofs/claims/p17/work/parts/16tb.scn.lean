/-! forward: the reference's chapels -/
/-- the reference's town -/
def mT (m : xM) (C S : Nat) (A B Y : Nat → Nat) : Prop := m.1 314 25 = nI C ∧ m.1 314 26 = nI S ∧ C ≤ 8 ∧ S ≤ 12 ∧ ∀ s, s < S → m.1 320 (4 * s) = nI (A s) ∧ m.1 320 (4 * s + 1) = nI (B s) ∧ m.1 320 (4 * s + 2) = nI (Y s) ∧ A s < C ∧ B s < C ∧ A s ≠ B s ∧ 1 ≤ Y s ∧ Y s ≤ 40
theorem c_hasN {m : xM} {k j : Nat} (hk : k < 2147483648) (hj : j < 31) : fC 156 [.int (nI k), .int (nI j)] m (fun rv m' => rv = some (.int (if k.testBit j then 1 else 0)) ∧ m = m') := fun d P h => by
  obtain ⟨rv, m', hp, ho, e⟩ := c_has d P h
  refine ⟨rv, m', hp, ?_, e⟩
  rw [has_n hj hk] at ho
  cases hb : k.testBit j with
  | true =>
    rw [hb] at ho
    rcases ho with ⟨-, h⟩ | ⟨h, -⟩
    · exact h
    · exact absurd rfl h
  | false =>
    rw [hb] at ho
    rcases ho with ⟨h, -⟩ | ⟨-, h⟩
    · exact absurd h (by decide)
    · exact h
theorem c_openAt {m : xM} {C S w c : Nat} {A B Y : Nat → Nat} (hr : rS m) (hT : mT m C S A B Y) (hw : w < 65536) (hc : c < 65536) : fC 196 [.ref 314, .int (nI w), .int (nI c)] m (fun rv m' => rv = some (.int (nI (opc A B w c S))) ∧ m = m') := by
  refine fC_of (by decide) (fun d n P H => ?_)
  obtain ⟨t1, t2, t3, t4, t5⟩ := id hT
  have key : ∀ n e, e ≤ S → xF 196 (xw d) P (n + 1) 5 [(4, .int (nI e)), (3, .int (nI (opc A B w c e))), (0, .ref 314), (1, .int (nI w)), (2, .int (nI c))] [] m → ∃ rv m', P rv m' ∧ rv = some (.int (nI (opc A B w c S))) ∧ m = m' := by
    intro n
    induction n with
    | zero => exact fun e _ H => (xF_0 (f1_iload H k196_5 rfl)).elim
    | succ n ih =>
      intro e he H
      have ho := opc_le (A := A) (B := B) (w := w) (c := c) e
      replace H := f1_iload H k196_5 rfl
      replace H := f_aload_n H k196_7 rfl
      replace H := f_gi H k196_8 (ci := 12) (f := 26) (by decide +kernel) (by decide)
      rw [t2] at H
      have Hbr := f_icmp_ge H k196_11 (t := 65) (by decide)
      clear H
      rcases Hbr with ⟨c0, H⟩ | ⟨c0, H⟩
      · rw [nxle (by omega) (by omega)] at c0
        have ee : e = S := by omega
        subst ee
        replace H := f_iload_n H k196_65 rfl
        replace H := f_iret H k196_66
        exact ⟨_, _, H, rfl, rfl⟩
      · rw [nxle (by omega) (by omega)] at c0
        obtain ⟨s1, s2, s3, s4, s5, -⟩ := t5 e (by omega)
        replace H := f_iload_n H k196_14 rfl
        replace H := f_iload H k196_15 rfl
        obtain ⟨rv, m2, ⟨rfl, e3⟩, h9_17⟩ := f_ins H k196_17 (by decide +kernel) (as := [.int _, .int _]) (r := []) (by rfl) (c_hasN (by omega) (by omega))
        replace H := h9_17
        rw [← e3] at H
        clear e3
        cases hb : w.testBit e with
        | true =>
          rw [hb] at H
          replace H := f_if_ne_t H k196_20 (by decide) (t := 59) (by decide)
          replace H := f_iinc H k196_59 rfl (l2 := [(4, .int (nI e + 1)), (3, .int (nI (opc A B w c e))), (0, .ref 314), (1, .int (nI w)), (2, .int (nI c))]) rfl
          replace H := f_goto H k196_62 (t := 5) (by decide)
          rw [nI_s] at H
          refine ih (e + 1) (by omega) ?_
          rw [show opc A B w c (e + 1) = opc A B w c e by rw [opc_s, if_neg (fun q => by rw [hb] at q; cases q.1), Nat.add_zero]]
          exact H
        | false =>
          rw [hb] at H
          replace H := f_if_ne_f H k196_20 rfl
          have yes : ∀ n, (A e = c ∨ B e = c) → xF 196 (xw d) P (n + 1) 52 [(4, .int (nI e)), (3, .int (nI (opc A B w c e))), (0, .ref 314), (1, .int (nI w)), (2, .int (nI c))] [.int (nI (opc A B w c e))] m → xF 196 (xw d) P (n + 1) 5 [(4, .int (nI (e + 1))), (3, .int (nI (opc A B w c (e + 1)))), (0, .ref 314), (1, .int (nI w)), (2, .int (nI c))] [] m := by
            intro n h H
            replace H := f_iconst H k196_52 (v := 1) (by decide)
            replace H := f_goto H k196_53 (t := 57) (by decide)
            replace H := f_iadd H k196_57
            rw [nI_s, show opc A B w c e + 1 = opc A B w c (e + 1) by rw [opc_s, if_pos ⟨hb, h⟩]] at H
            replace H := f_istore_n H k196_58 (l2 := [(3, .int (nI (opc A B w c (e + 1)))), (4, .int (nI e)), (0, .ref 314), (1, .int (nI w)), (2, .int (nI c))]) rfl
            replace H := f_iinc H k196_59 rfl (l2 := [(4, .int (nI e + 1)), (3, .int (nI (opc A B w c (e + 1)))), (0, .ref 314), (1, .int (nI w)), (2, .int (nI c))]) rfl
            replace H := f_goto H k196_62 (t := 5) (by decide)
            rw [nI_s] at H
            exact H
          replace H := f_iload_n H k196_23 rfl
          replace H := f_aload_n H k196_24 rfl
          replace H := f_gr H k196_25 (ci := 12) (f := 19) (x := 320) (by decide +kernel) (by decide) (hr 314 19 320 rfl)
          replace H := f_iconst H k196_28 (v := 4) (by decide)
          replace H := f_iload H k196_29 rfl
          replace H := f_imul H k196_31
          have Hob := f_iald H k196_32 (c := 48) (by decide)
          clear H
          obtain ⟨hb32, H⟩ := Hob
          replace H := f_iload_n H k196_33 rfl
          rw [show (4 : Int32) = nI 4 from rfl, nI_mul, nI_clamp (by omega), s1] at H
          have Hbr := f_icmp_eq H k196_34 (t := 52) (by decide)
          clear H
          rcases Hbr with ⟨c1, H⟩ | ⟨c1, H⟩
          · rw [nI_inj (by omega) (by omega)] at c1
            exact ih (e + 1) (by omega) (yes _ (Or.inl c1) H)
          · rw [nI_inj (by omega) (by omega)] at c1
            replace H := f_aload_n H k196_37 rfl
            replace H := f_gr H k196_38 (ci := 12) (f := 19) (x := 320) (by decide +kernel) (by decide) (hr 314 19 320 rfl)
            replace H := f_iconst H k196_41 (v := 4) (by decide)
            replace H := f_iload H k196_42 rfl
            replace H := f_imul H k196_44
            replace H := f_iconst H k196_45 (v := 1) (by decide)
            replace H := f_iadd H k196_46
            have Hob := f_iald H k196_47 (c := 48) (by decide)
            clear H
            obtain ⟨hb47, H⟩ := Hob
            replace H := f_iload_n H k196_48 rfl
            rw [show (4 : Int32) = nI 4 from rfl, nI_mul, nI_s, nI_clamp (by omega), s2] at H
            have Hbr := f_icmp_ne H k196_49 (t := 56) (by decide)
            clear H
            rcases Hbr with ⟨c2, H⟩ | ⟨c2, H⟩
            · rw [nI_inj (by omega) (by omega)] at c2
              replace H := f_iconst H k196_56 (v := 0) (by decide)
              replace H := f_iadd H k196_57
              rw [show nI (opc A B w c e) + 0 = nI (opc A B w c (e + 1)) by rw [show opc A B w c (e + 1) = opc A B w c e by rw [opc_s, if_neg (fun q => q.2.elim c1 c2), Nat.add_zero]]; exact r_ad _ 0] at H
              replace H := f_istore_n H k196_58 (l2 := [(3, .int (nI (opc A B w c (e + 1)))), (4, .int (nI e)), (0, .ref 314), (1, .int (nI w)), (2, .int (nI c))]) rfl
              replace H := f_iinc H k196_59 rfl (l2 := [(4, .int (nI e + 1)), (3, .int (nI (opc A B w c (e + 1)))), (0, .ref 314), (1, .int (nI w)), (2, .int (nI c))]) rfl
              replace H := f_goto H k196_62 (t := 5) (by decide)
              rw [nI_s] at H
              exact ih (e + 1) (by omega) H
            · rw [nI_inj (by omega) (by omega)] at c2
              exact ih (e + 1) (by omega) (yes _ (Or.inr c2) H)
  replace H := f_iconst H k196_0 (v := 0) (by decide)
  replace H := f_istore_n H k196_1 (l2 := [(3, .int 0), (0, .ref 314), (1, .int (nI w)), (2, .int (nI c))]) rfl
  replace H := f_iconst H k196_2 (v := 0) (by decide)
  replace H := f_istore H k196_3 (l2 := [(4, .int 0), (3, .int 0), (0, .ref 314), (1, .int (nI w)), (2, .int (nI c))]) rfl
  exact key n 0 (Nat.zero_le _) (f_up H (Nat.le_succ _))
theorem c_mchapels {m : xM} {C S w : Nat} {A B Y : Nat → Nat} (hr : rS m) (hT : mT m C S A B Y) (hw : w < 65536) : fC 197 [.ref 314, .int (nI w)] m (fun rv m' => rv = some (.int (nI (chp A B S w C))) ∧ m = m') := by
  refine fC_of (by decide) (fun d n P H => ?_)
  obtain ⟨t1, t2, t3, t4, t5⟩ := id hT
  have key : ∀ n e, e ≤ C → xF 197 (xw d) P (n + 1) 4 [(3, .int (nI e)), (2, .int (nI (chp A B S w e))), (0, .ref 314), (1, .int (nI w))] [] m → ∃ rv m', P rv m' ∧ rv = some (.int (nI (chp A B S w C))) ∧ m = m' := by
    intro n
    induction n with
    | zero => exact fun e _ H => (xF_0 (f1_iload_n H k197_4 rfl)).elim
    | succ n ih =>
      intro e he H
      replace H := f1_iload_n H k197_4 rfl
      replace H := f_aload_n H k197_5 rfl
      replace H := f_gi H k197_6 (ci := 12) (f := 25) (by decide +kernel) (by decide)
      rw [t1] at H
      have Hbr := f_icmp_ge H k197_9 (t := 38) (by decide)
      clear H
      rcases Hbr with ⟨c0, H⟩ | ⟨c0, H⟩
      · rw [nxle (by omega) (by omega)] at c0
        have ee : e = C := by omega
        subst ee
        replace H := f_iload_n H k197_38 rfl
        replace H := f_iret H k197_39
        exact ⟨_, _, H, rfl, rfl⟩
      · rw [nxle (by omega) (by omega)] at c0
        have ho := opc_le (A := A) (B := B) (w := w) (c := e) S
        replace H := f_iload_n H k197_12 rfl
        replace H := f_aload_n H k197_13 rfl
        replace H := f_iload_n H k197_14 rfl
        replace H := f_iload_n H k197_15 rfl
        obtain ⟨rv, m2, ⟨rfl, e3⟩, h9_16⟩ := f_inv H k197_16 (by decide +kernel) (as := [.int _, .int _]) (b := 314) (r := [.int _]) (by rfl) (c_openAt hr hT hw (by omega))
        replace H := h9_16
        rw [← e3] at H
        clear e3
        replace H := f_iconst H k197_19 (v := 1) (by decide)
        have Hbr := f_icmp_ne H k197_20 (t := 29) (by decide)
        clear H
        rcases Hbr with ⟨c1, H⟩ | ⟨c1, H⟩
        · have c2 : ¬ opc A B w e S = 1 := fun q => c1 (by rw [q]; rfl)
          replace H := f_iconst H k197_29 (v := 0) (by decide)
          replace H := f_ior H k197_30
          rw [show nI (chp A B S w e) ||| 0 = nI (chp A B S w (e + 1)) by rw [show chp A B S w (e + 1) = chp A B S w e ||| 0 by rw [chp_s, if_neg c2]]; exact fa_or _ 0] at H
          replace H := f_istore_n H k197_31 (l2 := [(2, .int (nI (chp A B S w (e + 1)))), (3, .int (nI e)), (0, .ref 314), (1, .int (nI w))]) rfl
          replace H := f_iinc H k197_32 rfl (l2 := [(3, .int (nI e + 1)), (2, .int (nI (chp A B S w (e + 1)))), (0, .ref 314), (1, .int (nI w))]) rfl
          replace H := f_goto H k197_35 (t := 4) (by decide)
          rw [nI_s] at H
          exact ih (e + 1) (by omega) H
        · have c2 : opc A B w e S = 1 := by rw [show (1 : Int32) = nI 1 from rfl, nI_inj (by omega) (by omega)] at c1; exact c1
          replace H := f_iconst H k197_23 (v := 1) (by decide)
          replace H := f_iload_n H k197_24 rfl
          replace H := f_ishl H k197_25
          replace H := f_goto H k197_26 (t := 30) (by decide)
          replace H := f_ior H k197_30
          rw [shl_n (by omega), show nI (chp A B S w e) ||| nI (2 ^ e) = nI (chp A B S w (e + 1)) by rw [show chp A B S w (e + 1) = chp A B S w e ||| 2 ^ e by rw [chp_s, if_pos c2]]; exact fa_or _ _] at H
          replace H := f_istore_n H k197_31 (l2 := [(2, .int (nI (chp A B S w (e + 1)))), (3, .int (nI e)), (0, .ref 314), (1, .int (nI w))]) rfl
          replace H := f_iinc H k197_32 rfl (l2 := [(3, .int (nI e + 1)), (2, .int (nI (chp A B S w (e + 1)))), (0, .ref 314), (1, .int (nI w))]) rfl
          replace H := f_goto H k197_35 (t := 4) (by decide)
          rw [nI_s] at H
          exact ih (e + 1) (by omega) H
  replace H := f_iconst H k197_0 (v := 0) (by decide)
  replace H := f_istore_n H k197_1 (l2 := [(2, .int 0), (0, .ref 314), (1, .int (nI w))]) rfl
  replace H := f_iconst H k197_2 (v := 0) (by decide)
  replace H := f_istore_n H k197_3 (l2 := [(3, .int 0), (2, .int 0), (0, .ref 314), (1, .int (nI w))]) rfl
  exact key n 0 (Nat.zero_le _) (f_up H (Nat.le_succ _))
