theorem k87_0 : lkc 0 (kcode 87) = some (.aload_n 0) := by decide +kernel
theorem k87_1 : lkc 1 (kcode 87) = some (.getfield 16) := by decide +kernel
theorem k87_4 : lkc 4 (kcode 87) = some (.iload_n 1) := by decide +kernel
theorem k87_5 : lkc 5 (kcode 87) = some (.aaload) := by decide +kernel
theorem k87_6 : lkc 6 (kcode 87) = some (.iload_n 2) := by decide +kernel
theorem k87_7 : lkc 7 (kcode 87) = some (.iaload) := by decide +kernel
theorem k87_8 : lkc 8 (kcode 87) = some (.ldc 30) := by decide +kernel
theorem k87_10 : lkc 10 (kcode 87) = some (.if_icmp .lt 5) := by decide +kernel
theorem k87_13 : lkc 13 (kcode 87) = some (.iconst (-1)) := by decide +kernel
theorem k87_14 : lkc 14 (kcode 87) = some (.ireturn) := by decide +kernel
theorem k87_15 : lkc 15 (kcode 87) = some (.iload_n 1) := by decide +kernel
theorem k87_16 : lkc 16 (kcode 87) = some (.istore_n 3) := by decide +kernel
theorem k87_17 : lkc 17 (kcode 87) = some (.iload_n 1) := by decide +kernel
theorem k87_18 : lkc 18 (kcode 87) = some (.istore 4) := by decide +kernel
theorem k87_20 : lkc 20 (kcode 87) = some (.iconst 1) := by decide +kernel
theorem k87_21 : lkc 21 (kcode 87) = some (.istore 5) := by decide +kernel
theorem k87_23 : lkc 23 (kcode 87) = some (.iload 5) := by decide +kernel
theorem k87_25 : lkc 25 (kcode 87) = some (.aload_n 0) := by decide +kernel
theorem k87_26 : lkc 26 (kcode 87) = some (.getfield 29) := by decide +kernel
theorem k87_29 : lkc 29 (kcode 87) = some (.if_icmp .ge 32) := by decide +kernel
theorem k87_32 : lkc 32 (kcode 87) = some (.iload 4) := by decide +kernel
theorem k87_34 : lkc 34 (kcode 87) = some (.iload_n 2) := by decide +kernel
theorem k87_35 : lkc 35 (kcode 87) = some (.if_icmp .eq 26) := by decide +kernel
theorem k87_38 : lkc 38 (kcode 87) = some (.aload_n 0) := by decide +kernel
theorem k87_39 : lkc 39 (kcode 87) = some (.iload 4) := by decide +kernel
theorem k87_41 : lkc 41 (kcode 87) = some (.iload_n 2) := by decide +kernel
theorem k87_42 : lkc 42 (kcode 87) = some (.invokevirtual 64) := by decide +kernel
theorem k87_45 : lkc 45 (kcode 87) = some (.istore 4) := by decide +kernel
theorem k87_47 : lkc 47 (kcode 87) = some (.iload_n 3) := by decide +kernel
theorem k87_48 : lkc 48 (kcode 87) = some (.bipush 10) := by decide +kernel
theorem k87_50 : lkc 50 (kcode 87) = some (.imul) := by decide +kernel
theorem k87_51 : lkc 51 (kcode 87) = some (.iload 4) := by decide +kernel
theorem k87_53 : lkc 53 (kcode 87) = some (.iadd) := by decide +kernel
theorem k87_54 : lkc 54 (kcode 87) = some (.istore_n 3) := by decide +kernel
theorem k87_55 : lkc 55 (kcode 87) = some (.iinc 5 1) := by decide +kernel
theorem k87_58 : lkc 58 (kcode 87) = some (.goto (-35)) := by decide +kernel
theorem k87_61 : lkc 61 (kcode 87) = some (.iload_n 3) := by decide +kernel
theorem k87_62 : lkc 62 (kcode 87) = some (.ireturn) := by decide +kernel
theorem k88_0 : lkc 0 (kcode 88) = some (.iconst 0) := by decide +kernel
theorem k88_1 : lkc 1 (kcode 88) = some (.istore_n 3) := by decide +kernel
theorem k88_2 : lkc 2 (kcode 88) = some (.iload_n 3) := by decide +kernel
theorem k88_3 : lkc 3 (kcode 88) = some (.aload_n 0) := by decide +kernel
theorem k88_4 : lkc 4 (kcode 88) = some (.getfield 29) := by decide +kernel
theorem k88_7 : lkc 7 (kcode 88) = some (.if_icmp .ge 56) := by decide +kernel
theorem k88_10 : lkc 10 (kcode 88) = some (.aload_n 0) := by decide +kernel
theorem k88_11 : lkc 11 (kcode 88) = some (.getfield 11) := by decide +kernel
theorem k88_14 : lkc 14 (kcode 88) = some (.iload_n 1) := by decide +kernel
theorem k88_15 : lkc 15 (kcode 88) = some (.aaload) := by decide +kernel
theorem k88_16 : lkc 16 (kcode 88) = some (.iload_n 3) := by decide +kernel
theorem k88_17 : lkc 17 (kcode 88) = some (.iaload) := by decide +kernel
theorem k88_18 : lkc 18 (kcode 88) = some (.iconst (-1)) := by decide +kernel
theorem k88_19 : lkc 19 (kcode 88) = some (.if_icmp .eq 38) := by decide +kernel
theorem k88_22 : lkc 22 (kcode 88) = some (.aload_n 0) := by decide +kernel
theorem k88_23 : lkc 23 (kcode 88) = some (.getfield 11) := by decide +kernel
theorem k88_26 : lkc 26 (kcode 88) = some (.iload_n 1) := by decide +kernel
theorem k88_27 : lkc 27 (kcode 88) = some (.aaload) := by decide +kernel
theorem k88_28 : lkc 28 (kcode 88) = some (.iload_n 3) := by decide +kernel
theorem k88_29 : lkc 29 (kcode 88) = some (.iaload) := by decide +kernel
theorem k88_30 : lkc 30 (kcode 88) = some (.bipush 16) := by decide +kernel
theorem k88_32 : lkc 32 (kcode 88) = some (.imul) := by decide +kernel
theorem k88_33 : lkc 33 (kcode 88) = some (.iconst 1) := by decide +kernel
theorem k88_34 : lkc 34 (kcode 88) = some (.iadd) := by decide +kernel
theorem k88_35 : lkc 35 (kcode 88) = some (.aload_n 0) := by decide +kernel
theorem k88_36 : lkc 36 (kcode 88) = some (.getfield 16) := by decide +kernel
theorem k88_39 : lkc 39 (kcode 88) = some (.iload_n 3) := by decide +kernel
theorem k88_40 : lkc 40 (kcode 88) = some (.aaload) := by decide +kernel
theorem k88_41 : lkc 41 (kcode 88) = some (.iload_n 2) := by decide +kernel
theorem k88_42 : lkc 42 (kcode 88) = some (.iaload) := by decide +kernel
theorem k88_43 : lkc 43 (kcode 88) = some (.iadd) := by decide +kernel
theorem k88_44 : lkc 44 (kcode 88) = some (.aload_n 0) := by decide +kernel
theorem k88_45 : lkc 45 (kcode 88) = some (.getfield 16) := by decide +kernel
theorem k88_48 : lkc 48 (kcode 88) = some (.iload_n 1) := by decide +kernel
theorem k88_49 : lkc 49 (kcode 88) = some (.aaload) := by decide +kernel
theorem k88_50 : lkc 50 (kcode 88) = some (.iload_n 2) := by decide +kernel
theorem k88_51 : lkc 51 (kcode 88) = some (.iaload) := by decide +kernel
theorem k88_52 : lkc 52 (kcode 88) = some (.if_icmp .ne 5) := by decide +kernel
theorem k88_55 : lkc 55 (kcode 88) = some (.iload_n 3) := by decide +kernel
theorem k88_56 : lkc 56 (kcode 88) = some (.ireturn) := by decide +kernel
theorem k88_57 : lkc 57 (kcode 88) = some (.iinc 3 1) := by decide +kernel
theorem k88_60 : lkc 60 (kcode 88) = some (.goto (-58)) := by decide +kernel
theorem k131_0 : lkc 0 (kcode 131) = some (.aload_n 0) := by decide +kernel
theorem k131_1 : lkc 1 (kcode 131) = some (.iload_n 1) := by decide +kernel
theorem k131_2 : lkc 2 (kcode 131) = some (.invokevirtual 159) := by decide +kernel
theorem k131_5 : lkc 5 (kcode 131) = some (.ifCond .eq 11) := by decide +kernel
theorem k131_8 : lkc 8 (kcode 131) = some (.aload_n 0) := by decide +kernel
theorem k131_9 : lkc 9 (kcode 131) = some (.iload_n 2) := by decide +kernel
theorem k131_10 : lkc 10 (kcode 131) = some (.invokevirtual 159) := by decide +kernel
theorem k131_13 : lkc 13 (kcode 131) = some (.ifCond .ne 5) := by decide +kernel
theorem k131_16 : lkc 16 (kcode 131) = some (.iconst (-1)) := by decide +kernel
theorem k131_17 : lkc 17 (kcode 131) = some (.ireturn) := by decide +kernel
theorem k131_18 : lkc 18 (kcode 131) = some (.aload_n 0) := by decide +kernel
theorem k131_19 : lkc 19 (kcode 131) = some (.getfield 52) := by decide +kernel
theorem k131_22 : lkc 22 (kcode 131) = some (.aload_n 0) := by decide +kernel
theorem k131_23 : lkc 23 (kcode 131) = some (.getfield 19) := by decide +kernel
theorem k131_26 : lkc 26 (kcode 131) = some (.aload_n 0) := by decide +kernel
theorem k131_27 : lkc 27 (kcode 131) = some (.invokevirtual 170) := by decide +kernel
theorem k131_30 : lkc 30 (kcode 131) = some (.invokevirtual 312) := by decide +kernel
theorem k131_33 : lkc 33 (kcode 131) = some (.aload_n 0) := by decide +kernel
theorem k131_34 : lkc 34 (kcode 131) = some (.getfield 52) := by decide +kernel
theorem k131_37 : lkc 37 (kcode 131) = some (.iload_n 1) := by decide +kernel
theorem k131_38 : lkc 38 (kcode 131) = some (.iload_n 2) := by decide +kernel
theorem k131_39 : lkc 39 (kcode 131) = some (.invokevirtual 319) := by decide +kernel
theorem k131_42 : lkc 42 (kcode 131) = some (.ireturn) := by decide +kernel
/-! forward: the way -/
theorem grL_1 {C : Nat} {T X : Mt} {b : Nat} : ∀ l k a, grL C T X b a l → grL C T X b a k → l = k := by
  intro l
  induction l with
  | nil =>
    intro k a h g
    cases k with
    | nil => rfl
    | cons c k => exact absurd h g.1
  | cons c l ih =>
    intro k a h g
    cases k with
    | nil => exact absurd g h.1
    | cons d k =>
      have e : c = d := by
        rcases Nat.lt_trichotomy c d with q | q | q
        · exact absurd h.2.1.1 (g.2.1.2 c q)
        · exact q
        · exact absurd g.2.1.1 (h.2.1.2 d q)
      subst e
      rw [ih k c h.2.2 g.2.2]
def waV (C : Nat) (T X D : Mt) (z y v : Int32) : Prop := (∃ a b, a < C ∧ b < C ∧ z = nI a ∧ y = nI b ∧ ((¬ X a b < 1000000 ∧ v = -1) ∨ ∃ l, grL C T X b a l ∧ X a b = 16 * D a b + l.length ∧ X a b < 1000000 ∧ v = nI (rowL a l))) ∨ (¬ ((∃ a, a < C ∧ z = nI a) ∧ ∃ b, b < C ∧ y = nI b) ∧ v = -1)
theorem waV_1 {C : Nat} {T X D : Mt} {z y v u : Int32} (hC : C ≤ 8) (h : waV C T X D z y v) (g : waV C T X D z y u) : v = u := by
  rcases h with ⟨a, b, h1, h2, h3, h4, h5⟩ | ⟨h1, h2⟩
  · rcases g with ⟨c, d, g1, g2, g3, g4, g5⟩ | ⟨g1, g2⟩
    · have e1 : a = c := (nI_inj (by omega) (by omega)).mp (h3.symm.trans g3)
      have e2 : b = d := (nI_inj (by omega) (by omega)).mp (h4.symm.trans g4)
      subst e1 e2
      rcases h5 with ⟨h6, h7⟩ | ⟨l, h6, h7, h8, h9⟩ <;> rcases g5 with ⟨g6, g7⟩ | ⟨k, g6, g7, g8, g9⟩
      · exact h7.trans g7.symm
      · exact absurd g8 h6
      · exact absurd h8 g6
      · rw [h9, g9, grL_1 l k a h6 g6]
    · exact absurd ⟨⟨a, h1, h3⟩, b, h2, h4⟩ g1
  · rcases g with ⟨c, d, g1, g2, g3, g4, g5⟩ | ⟨g1, g2⟩
    · exact absurd ⟨⟨c, g1, g3⟩, d, g2, g4⟩ h1
    · exact h2.trans g2.symm
set_option maxHeartbeats 1000000 in
theorem c_nextTowards {m : xM} {C a b c : Nat} {T X : Mt} (hr : rS m) (hC8 : C ≤ 8) (hX : mX m C T X) (hXb : mle 1000000 X) (hTb : mle 40 T) (ha : a < C) (hb : b < C) (hn : nxI C T X a b c) : fC 88 [.ref 63, .int (nI a), .int (nI b)] m (fun rv m' => rv = some (.int (nI c)) ∧ m = m') := by
  refine fC_of (by decide) (fun d n9 P H => ?_)
  obtain ⟨⟨n1, n2, n3⟩, n4⟩ := hn
  have lp : ∀ n9 e, e ≤ c → xF 88 (xw d) P n9 2 [(3, .int (nI e)), (0, .ref 63), (1, .int (nI a)), (2, .int (nI b))] [] m → ∃ rv m', P rv m' ∧ rv = some (.int (nI c)) ∧ m = m' := by
    intro n9
    induction n9 with
    | zero => exact fun e _ H => (xF_0 H).elim
    | succ n9 ih =>
      intro e he H
      have heC : e < C := by omega
      have t1 := hTb a e
      have t2 := hXb e b
      have t3 := hXb a b
      obtain ⟨y1, -⟩ := hX.2 a e ha heC
      obtain ⟨-, y2⟩ := hX.2 e b heC hb
      obtain ⟨-, y3⟩ := hX.2 a b ha hb
      have nxt : ¬ nxP C T X a b e → xF 88 (xw d) P n9 57 [(3, .int (nI e)), (0, .ref 63), (1, .int (nI a)), (2, .int (nI b))] [] m → ∃ rv m', P rv m' ∧ rv = some (.int (nI c)) ∧ m = m' := by
        intro h9 H
        have hec : e < c := by
          rcases Nat.lt_or_ge e c with q | q
          · exact q
          · exact absurd (show nxP C T X a b c from ⟨n1, n2, n3⟩) (by rw [show c = e by omega]; exact h9)
        replace H := f_iinc H k88_57 rfl (l2 := [(3, .int (nI e + 1)), (0, .ref 63), (1, .int (nI a)), (2, .int (nI b))]) rfl
        replace H := f_goto H k88_60 (t := 2) (by decide)
        rw [nI_s] at H
        exact ih (e + 1) (by omega) H
      obtain ⟨Uy, Ut⟩ := rx_64 ⟨a, by omega⟩
      replace Uy : lay (65 + a) = (0, 0, 8) := Uy
      replace Ut : tR 64 a = some (65 + a) := Ut
      obtain ⟨U, hU⟩ : ∃ R, R = 65 + a := ⟨_, rfl⟩
      rw [← hU] at Uy Ut y1
      obtain ⟨Vy, Vt⟩ := rx_73 ⟨e, by omega⟩
      replace Vy : lay (74 + e) = (0, 0, 8) := Vy
      replace Vt : tR 73 e = some (74 + e) := Vt
      obtain ⟨V, hV⟩ : ∃ R, R = 74 + e := ⟨_, rfl⟩
      rw [← hV] at Vy Vt y2
      obtain ⟨Wy, Wt⟩ := rx_73 ⟨a, by omega⟩
      replace Wy : lay (74 + a) = (0, 0, 8) := Wy
      replace Wt : tR 73 a = some (74 + a) := Wt
      obtain ⟨W, hW⟩ : ∃ R, R = 74 + a := ⟨_, rfl⟩
      rw [← hW] at Wy Wt y3
      replace H := f1_iload_n H k88_2 rfl
      replace H := f_aload_n H k88_3 rfl
      replace H := f_gi H k88_4 (ci := 10) (f := 3) (by decide +kernel) (by decide)
      rw [hX.1] at H
      replace H := f_icmp_ge_f H k88_7 (by rw [nxle (by omega) (by omega)]; omega)
      replace H := f_aload_n H k88_10 rfl
      replace H := f_gr H k88_11 (ci := 10) (f := 0) (x := 64) (by decide +kernel) (by decide) (hr 63 0 64 rfl)
      replace H := f_iload_n H k88_14 rfl
      have Hob := f_aald H k88_15 (x := 6) (c := 8) (v := .ref U) (by decide) ((by rw [nI_clamp (by omega), hr 64 a U Ut]; rfl))
      clear H
      obtain ⟨hb15, H⟩ := Hob
      replace H := f_iload_n H k88_16 rfl
      have Hob := f_iald H k88_17 (c := 8) Uy
      clear H
      obtain ⟨hb17, H⟩ := Hob
      replace H := f_iconst H k88_18 (v := -1) (by decide)
      rw [nI_clamp (by omega), y1] at H
      by_cases z : T a e = 0
      · replace H := f_icmp_eq_t H k88_19 (by rw [z]; rfl) (t := 57) (by decide)
        exact nxt (fun q => q.2.1 z) H
      · have es : stp (T a e) = nI (T a e) := stp_n z
        replace H := f_icmp_eq_f H k88_19 (by rw [es]; exact nI_ne1 (by omega))
        replace H := f_aload_n H k88_22 rfl
        replace H := f_gr H k88_23 (ci := 10) (f := 0) (x := 64) (by decide +kernel) (by decide) (hr 63 0 64 rfl)
        replace H := f_iload_n H k88_26 rfl
        have Hob := f_aald H k88_27 (x := 6) (c := 8) (v := .ref U) (by decide) ((by rw [nI_clamp (by omega), hr 64 a U Ut]; rfl))
        clear H
        obtain ⟨hb27, H⟩ := Hob
        replace H := f_iload_n H k88_28 rfl
        have Hob := f_iald H k88_29 (c := 8) Uy
        clear H
        obtain ⟨hb29, H⟩ := Hob
        replace H := f_bipush H k88_30 (v := 16) (by decide)
        replace H := f_imul H k88_32
        replace H := f_iconst H k88_33 (v := 1) (by decide)
        replace H := f_iadd H k88_34
        rw [nI_clamp (by omega), y1, es, show (16 : Int32) = nI 16 from rfl, nI_mul, nI_s] at H
        replace H := f_aload_n H k88_35 rfl
        replace H := f_gr H k88_36 (ci := 10) (f := 1) (x := 73) (by decide +kernel) (by decide) (hr 63 1 73 rfl)
        replace H := f_iload_n H k88_39 rfl
        have Hob := f_aald H k88_40 (x := 6) (c := 8) (v := .ref V) (by decide) ((by rw [nI_clamp (by omega), hr 73 e V Vt]; rfl))
        clear H
        obtain ⟨hb40, H⟩ := Hob
        replace H := f_iload_n H k88_41 rfl
        have Hob := f_iald H k88_42 (c := 8) Vy
        clear H
        obtain ⟨hb42, H⟩ := Hob
        replace H := f_iadd H k88_43
        rw [nI_clamp (by omega), y2, r_ad] at H
        replace H := f_aload_n H k88_44 rfl
        replace H := f_gr H k88_45 (ci := 10) (f := 1) (x := 73) (by decide +kernel) (by decide) (hr 63 1 73 rfl)
        replace H := f_iload_n H k88_48 rfl
        have Hob := f_aald H k88_49 (x := 6) (c := 8) (v := .ref W) (by decide) ((by rw [nI_clamp (by omega), hr 73 a W Wt]; rfl))
        clear H
        obtain ⟨hb49, H⟩ := Hob
        replace H := f_iload_n H k88_50 rfl
        have Hob := f_iald H k88_51 (c := 8) Wy
        clear H
        obtain ⟨hb51, H⟩ := Hob
        rw [nI_clamp (by omega), y3] at H
        have Hbr := f_icmp_ne H k88_52 (t := 57) (by decide)
        clear H
        rcases Hbr with ⟨c1, H⟩ | ⟨c1, H⟩
        · rw [nI_inj (by omega) (by omega)] at c1
          exact nxt (fun q => c1 (by have := q.2.2; omega)) H
        · rw [nI_inj (by omega) (by omega)] at c1
          have hp : nxP C T X a b e := ⟨heC, z, by omega⟩
          have ee : e = c := by
            rcases Nat.lt_or_ge e c with q | q
            · exact absurd hp (n4 e q)
            · omega
          replace H := f_iload_n H k88_55 rfl
          replace H := f_iret H k88_56
          exact ⟨_, _, H, by rw [ee], rfl⟩
  replace H := f_iconst H k88_0 (v := 0) (by decide)
  replace H := f_istore_n H k88_1 (l2 := [(3, .int 0), (0, .ref 63), (1, .int (nI a)), (2, .int (nI b))]) rfl
  replace H := f_ext H (l' := [(3, .int (nI 0)), (0, .ref 63), (1, .int (nI a)), (2, .int (nI b))]) (lE_cons rfl (lE_cons rfl (lE_cons rfl (lE_cons rfl (lE_nil))))) rfl rfl
  exact lp _ 0 (Nat.zero_le _) H
set_option maxHeartbeats 1000000 in
theorem c_leastRow {m : xM} {C a b : Nat} {T X D : Mt} (hr : rS m) (hC8 : C ≤ 8) (hX : mX m C T X) (hXb : mle 1000000 X) (hTb : mle 40 T) (hH : wyH C T X D) (ha : a < C) (hb : b < C) : fC 87 [.ref 63, .int (nI a), .int (nI b)] m (fun rv m' => (∃ v, rv = some (.int v) ∧ ((¬ X a b < 1000000 ∧ v = -1) ∨ ∃ l, grL C T X b a l ∧ X a b = 16 * D a b + l.length ∧ X a b < 1000000 ∧ v = nI (rowL a l))) ∧ m = m') := by
  refine fC_of (by decide) (fun d n9 P H => ?_)
  have t1 := hXb a b
  obtain ⟨-, y1⟩ := hX.2 a b ha hb
  obtain ⟨Uy, Ut⟩ := rx_73 ⟨a, by omega⟩
  replace Uy : lay (74 + a) = (0, 0, 8) := Uy
  replace Ut : tR 73 a = some (74 + a) := Ut
  obtain ⟨U, hU⟩ : ∃ R, R = 74 + a := ⟨_, rfl⟩
  rw [← hU] at Uy Ut y1
  replace H := f_aload_n H k87_0 rfl
  replace H := f_gr H k87_1 (ci := 10) (f := 1) (x := 73) (by decide +kernel) (by decide) (hr 63 1 73 rfl)
  replace H := f_iload_n H k87_4 rfl
  have Hob := f_aald H k87_5 (x := 6) (c := 8) (v := .ref U) (by decide) ((by rw [nI_clamp (by omega), hr 73 a U Ut]; rfl))
  clear H
  obtain ⟨hb5, H⟩ := Hob
  replace H := f_iload_n H k87_6 rfl
  have Hob := f_iald H k87_7 (c := 8) Uy
  clear H
  obtain ⟨hb7, H⟩ := Hob
  replace H := f_ldc_i H k87_8 (v := 1000000) (by decide +kernel)
  rw [nI_clamp (by omega), y1, show (1000000 : Int32) = nI 1000000 from rfl] at H
  by_cases q : X a b < 1000000
  · obtain ⟨l, g1, g2⟩ := grL_ex hH hC8 hb (X a b - 16 * D a b) a ha q (by have := (hH.1 a b ha hb q).1; omega)
    have g3 := (hH.1 a b ha hb q).2
    have g4 := (hH.1 a b ha hb q).1
    have lp : ∀ n9 L h r k, h < C → grL C T X b h k → L + k.length ≤ C → (r + 1) * 10 ^ k.length ≤ 100000000 → rowL r k = rowL a l → xF 87 (xw d) P n9 23 [(5, .int (nI L)), (4, .int (nI h)), (3, .int (nI r)), (0, .ref 63), (1, .int (nI a)), (2, .int (nI b))] [] m → ∃ rv m', P rv m' ∧ (∃ v, rv = some (.int v) ∧ ((¬ X a b < 1000000 ∧ v = -1) ∨ ∃ l, grL C T X b a l ∧ X a b = 16 * D a b + l.length ∧ X a b < 1000000 ∧ v = nI (rowL a l))) ∧ m = m' := by
      intro n9
      induction n9 with
      | zero => exact fun L h r k _ _ _ _ _ H => (xF_0 H).elim
      | succ n9 ih =>
        intro L h r k hh hg hL hr9 he H
        have fin : k = [] → xF 87 (xw d) P n9 61 [(5, .int (nI L)), (4, .int (nI h)), (3, .int (nI r)), (0, .ref 63), (1, .int (nI a)), (2, .int (nI b))] [] m → ∃ rv m', P rv m' ∧ (∃ v, rv = some (.int v) ∧ ((¬ X a b < 1000000 ∧ v = -1) ∨ ∃ l, grL C T X b a l ∧ X a b = 16 * D a b + l.length ∧ X a b < 1000000 ∧ v = nI (rowL a l))) ∧ m = m' := by
          intro e0 H
          rw [e0] at he
          have he : r = rowL a l := he
          replace H := f_iload_n H k87_61 rfl
          replace H := f_iret H k87_62
          exact ⟨_, _, H, ⟨_, rfl, Or.inr ⟨l, g1, by omega, q, by rw [he]⟩⟩, rfl⟩
        replace H := f1_iload H k87_23 rfl
        replace H := f_aload_n H k87_25 rfl
        replace H := f_gi H k87_26 (ci := 10) (f := 3) (by decide +kernel) (by decide)
        rw [hX.1] at H
        have Hbr := f_icmp_ge H k87_29 (t := 61) (by decide)
        clear H
        rcases Hbr with ⟨c0, H⟩ | ⟨c0, H⟩
        · rw [nxle (by omega) (by omega)] at c0
          exact fin (List.eq_nil_of_length_eq_zero (by omega)) H
        · rw [nxle (by omega) (by omega)] at c0
          replace H := f_iload H k87_32 rfl
          replace H := f_iload_n H k87_34 rfl
          have Hbr := f_icmp_eq H k87_35 (t := 61) (by decide)
          clear H
          rcases Hbr with ⟨c1, H⟩ | ⟨c1, H⟩
          · rw [nI_inj (by omega) (by omega)] at c1
            refine fin ?_ H
            cases k with
            | nil => rfl
            | cons c k => exact absurd c1 hg.1
          · rw [nI_inj (by omega) (by omega)] at c1
            cases k with
            | nil => exact absurd hg c1
            | cons c k =>
              rw [List.length_cons] at hL hr9
              have hc : c < C := hg.2.1.1.1
              have p1 : 1 ≤ 10 ^ (k.length + 1) := Nat.one_le_pow _ _ (by decide)
              have p2 : (r + 1) * 1 ≤ (r + 1) * 10 ^ (k.length + 1) := Nat.mul_le_mul_left _ p1
              have p3 : (10 * r + c + 1) * 10 ^ k.length ≤ (10 * (r + 1)) * 10 ^ k.length := Nat.mul_le_mul_right _ (by omega)
              have p4 : (r + 1) * 10 ^ (k.length + 1) = (10 * (r + 1)) * 10 ^ k.length := by
                rw [Nat.pow_succ, Nat.mul_comm (10 ^ k.length) 10, ← Nat.mul_assoc, Nat.mul_comm (r + 1) 10]
              replace H := f_aload_n H k87_38 rfl
              replace H := f_iload H k87_39 rfl
              replace H := f_iload_n H k87_41 rfl
              obtain ⟨rv, m3, ⟨rfl, e3⟩, h9_42⟩ := f_inv H k87_42 (by decide +kernel) (as := [.int _, .int _]) (b := 63) (r := []) (by rfl) (c_nextTowards hr hC8 hX hXb hTb hh hb hg.2.1)
              replace H := h9_42
              rw [← e3] at H
              clear e3
              replace H := f_istore H k87_45 (l2 := [(4, .int (nI c)), (5, .int (nI L)), (3, .int (nI r)), (0, .ref 63), (1, .int (nI a)), (2, .int (nI b))]) rfl
              replace H := f_iload_n H k87_47 rfl
              replace H := f_bipush H k87_48 (v := 10) (by decide)
              replace H := f_imul H k87_50
              replace H := f_iload H k87_51 rfl
              replace H := f_iadd H k87_53
              rw [show (10 : Int32) = nI 10 from rfl, nI_mul, r_ad] at H
              replace H := f_istore_n H k87_54 (l2 := [(3, .int (nI (r * 10 + c))), (4, .int (nI c)), (5, .int (nI L)), (0, .ref 63), (1, .int (nI a)), (2, .int (nI b))]) rfl
              replace H := f_iinc H k87_55 rfl (l2 := [(5, .int (nI L + 1)), (3, .int (nI (r * 10 + c))), (4, .int (nI c)), (0, .ref 63), (1, .int (nI a)), (2, .int (nI b))]) rfl
              replace H := f_goto H k87_58 (t := 23) (by decide)
              rw [nI_s] at H
              replace H := f_ext H (l' := [(5, .int (nI (L + 1))), (4, .int (nI c)), (3, .int (nI (r * 10 + c))), (0, .ref 63), (1, .int (nI a)), (2, .int (nI b))]) (lE_cons rfl (lE_cons rfl (lE_cons rfl (lE_cons rfl (lE_cons rfl (lE_cons rfl (lE_nil))))))) rfl rfl
              rw [show r * 10 + c = 10 * r + c by omega] at H
              exact ih (L + 1) c (10 * r + c) k hc hg.2.2 (by omega) (by omega) he H
    replace H := f_icmp_lt_t H k87_10 (by rw [nxlt (by omega) (by omega)]; exact q) (t := 15) (by decide)
    replace H := f_iload_n H k87_15 rfl
    replace H := f_istore_n H k87_16 (l2 := [(3, .int (nI a)), (0, .ref 63), (1, .int (nI a)), (2, .int (nI b))]) rfl
    replace H := f_iload_n H k87_17 rfl
    replace H := f_istore H k87_18 (l2 := [(4, .int (nI a)), (3, .int (nI a)), (0, .ref 63), (1, .int (nI a)), (2, .int (nI b))]) rfl
    replace H := f_iconst H k87_20 (v := 1) (by decide)
    replace H := f_istore H k87_21 (l2 := [(5, .int 1), (4, .int (nI a)), (3, .int (nI a)), (0, .ref 63), (1, .int (nI a)), (2, .int (nI b))]) rfl
    replace H := f_ext H (l' := [(5, .int (nI 1)), (4, .int (nI a)), (3, .int (nI a)), (0, .ref 63), (1, .int (nI a)), (2, .int (nI b))]) (lE_cons rfl (lE_cons rfl (lE_cons rfl (lE_cons rfl (lE_cons rfl (lE_cons rfl (lE_nil))))))) rfl rfl
    refine lp _ 1 a a l ha g1 (by omega) ?_ rfl H
    have p1 : 10 ^ l.length ≤ 10 ^ 7 := Nat.pow_le_pow_right (by decide) (by omega)
    have p2 : (a + 1) * 10 ^ l.length ≤ 8 * 10 ^ 7 := Nat.mul_le_mul (by omega) p1
    omega
  · replace H := f_icmp_lt_f H k87_10 (by rw [nxlt (by omega) (by omega)]; exact q)
    replace H := f_iconst H k87_13 (v := -1) (by decide)
    replace H := f_iret H k87_14
    exact ⟨_, _, H, ⟨_, rfl, Or.inl ⟨q, rfl⟩⟩, rfl⟩
set_option maxHeartbeats 1000000 in
theorem c_way {m : xM} {C S w : Nat} {A B Y : Nat → Nat} {z y : Int32} (hr : rS m) (hT : xT m C S A B Y) (hw : m.1 89 0 = nI w) : fC 131 [.ref 0, .int z, .int y] m (fun rv m' => ∃ v, rv = some (.int v) ∧ waV C (wsX A B Y w S).1 (wyX C S A B Y w) (wyM C S A B Y w) z y v) := by
  refine fC_of (by decide) (fun d n P H => ?_)
  have hC8 : C ≤ 8 := hT.2.2.1
  have hS12 : S ≤ 12 := hT.2.2.2.1
  have hSt := xT_st hT
  have neg : ∀ n, ¬ ((∃ a, a < C ∧ z = nI a) ∧ ∃ b, b < C ∧ y = nI b) → xF 131 (xw d) P n 16 [(0, .ref 0), (1, .int z), (2, .int y)] [] m → ∃ rv m', P rv m' ∧ ∃ v, rv = some (.int v) ∧ waV C (wsX A B Y w S).1 (wyX C S A B Y w) (wyM C S A B Y w) z y v := by
    intro n hn H
    replace H := f_iconst H k131_16 (v := -1) (by decide)
    replace H := f_iret H k131_17
    exact ⟨_, _, H, _, rfl, Or.inr ⟨hn, rfl⟩⟩
  replace H := f_aload_n H k131_0 rfl
  replace H := f_iload_n H k131_1 rfl
  obtain ⟨rv, m3, ⟨ho1, e3⟩, h9_2⟩ := f_inv H k131_2 (by decide +kernel) (as := [.int _]) (b := 0) (r := []) (by rfl) (c_isCornerN hr hT.1 (by omega))
  replace H := h9_2
  rw [← e3] at H
  clear e3
  rcases ho1 with ⟨a, ha, hza, rfl⟩ | ⟨h0, rfl⟩
  · subst hza
    replace H := f_if_eq_f H k131_5 (by decide)
    replace H := f_aload_n H k131_8 rfl
    replace H := f_iload_n H k131_9 rfl
    obtain ⟨rv, m4, ⟨ho2, e3⟩, h9_10⟩ := f_inv H k131_10 (by decide +kernel) (as := [.int _]) (b := 0) (r := []) (by rfl) (c_isCornerN hr hT.1 (by omega))
    replace H := h9_10
    rw [← e3] at H
    clear e3
    rcases ho2 with ⟨b, hb, hyb, rfl⟩ | ⟨h1, rfl⟩
    · subst hyb
      replace H := f_if_ne_t H k131_13 (by decide) (t := 18) (by decide)
      replace H := f_aload_n H k131_18 rfl
      replace H := f_gr H k131_19 (ci := 11) (f := 6) (x := 63) (by decide +kernel) (by decide) (hr 0 6 63 rfl)
      replace H := f_aload_n H k131_22 rfl
      replace H := f_gr H k131_23 (ci := 11) (f := 1) (x := 3) (by decide +kernel) (by decide) (hr 0 1 3 rfl)
      replace H := f_aload_n H k131_26 rfl
      obtain ⟨rv, m5, ⟨rfl, e3⟩, h9_27⟩ := f_inv H k131_27 (by decide +kernel) (as := []) (b := 0) (r := [.ref 3, .ref 63]) (by rfl) (c_openNow hr hT hw)
      replace H := h9_27
      rw [← e3] at H
      clear e3
      obtain ⟨rv, m6, ⟨rfl, hf, hX⟩, h9_30⟩ := f_inv H k131_30 (by decide +kernel) (as := [.ref 3, .int _]) (b := 63) (r := []) (by rfl) (c_measure hr hT opb_o (opb_65 hS12))
      replace H := h9_30
      have hr := frX_r hf hr
      replace H := f_aload_n H k131_33 rfl
      replace H := f_gr H k131_34 (ci := 11) (f := 6) (x := 63) (by decide +kernel) (by decide) (hr 0 6 63 rfl)
      replace H := f_iload_n H k131_37 rfl
      replace H := f_iload_n H k131_38 rfl
      obtain ⟨rv, m7, ⟨⟨v, rfl, hv⟩, e3⟩, h9_39⟩ := f_inv H k131_39 (by decide +kernel) (as := [.int _, .int _]) (b := 63) (r := []) (by rfl) (c_leastRow hr hC8 hX (fwO_le (wsX_le hSt) C) (fun a b => wsX_40 hSt) (wyH_ok hC8 hSt) ha hb)
      replace H := h9_39
      rw [← e3] at H
      clear e3
      replace H := f_iret H k131_42
      exact ⟨_, _, H, _, rfl, Or.inl ⟨a, b, ha, hb, rfl, rfl, hv⟩⟩
    · replace H := f_if_ne_f H k131_13 (by decide)
      exact neg _ (fun h => by
        obtain ⟨-, b, hb, e⟩ := h
        exact h1 b hb e) H
  · replace H := f_if_eq_t H k131_5 rfl (t := 16) (by decide)
    exact neg _ (fun h => by
      obtain ⟨⟨b, hb, e⟩, -⟩ := h
      exact h0 b hb e) H
