/-! walls told, and the ranges of what a town's text tells -/
def wlT (D : Nat → Nat) : Nat → Nat
  | 0 => 0
  | s + 1 => wlT D s ||| (D s * 2 ^ s)
theorem wlT_s {D : Nat → Nat} {s : Nat} : wlT D (s + 1) = wlT D s ||| (D s * 2 ^ s) := rfl
theorem wlT_lt {D : Nat → Nat} : ∀ s, (∀ k, k < s → D k ≤ 1) → wlT D s < 2 ^ s
  | 0, _ => by unfold wlT; decide
  | s + 1, h => by
    have h1 := wlT_lt (D := D) s (fun k hk => h k (by omega))
    have h2 : (2 : Nat) ^ s < 2 ^ (s + 1) := Nat.pow_lt_pow_right (by omega) (by omega)
    have h3 : D s * 2 ^ s ≤ 1 * 2 ^ s := Nat.mul_le_mul_right _ (h s (by omega))
    rw [wlT_s]
    exact Nat.or_lt_two_pow (Nat.lt_trans h1 h2) (by omega)
theorem shl_d : ∀ d : Fin 2, ∀ k : Fin 16, nI d.val <<< (nI k.val &&& 31) = nI (d.val * 2 ^ k.val) := by decide +kernel
theorem shl_b {d k : Nat} (hd : d ≤ 1) (hk : k < 16) : nI d <<< (nI k &&& 31) = nI (d * 2 ^ k) := shl_d ⟨d, by omega⟩ ⟨k, hk⟩
/-- what is told stands within its ranges -/
def rowOk (K : Nat) (row : Nat → Int32) : Prop := ∀ i, i < LK K → (lsT K i).toInt ≤ (row i).toInt ∧ (row i).toInt ≤ (msT K i).toInt
theorem dfT_ok : ∀ K : Fin 3, ∀ i : Fin 4, i.val < LK K.val → (lsT K.val i.val).toInt ≤ (dfT K.val i.val).toInt ∧ (dfT K.val i.val).toInt ≤ (msT K.val i.val).toInt := by decide +kernel
theorem numT_ok {N : Nat} {t : Nat → Int32} {l mo v : Int32} {h h2 : Nat} (e : numT N t l mo h = .inl (v, h2)) : l.toInt ≤ v.toInt ∧ v.toInt ≤ mo.toInt := by
  unfold numT at e
  split at e
  · cases e
  · split at e
    · cases e
    · rename_i c
      cases e
      rw [Int32.lt_iff_toInt_lt, Int32.lt_iff_toInt_lt] at c
      omega
theorem itm_ok {N : Nat} {t : Nat → Int32} {K : Nat} : ∀ f told row h row2 h2, rowOk K row → itm N t K f told row h = .inl (row2, h2) → rowOk K row2 := by
  intro f
  induction f with
  | zero => exact fun _ _ _ _ _ _ e => by unfold itm at e; cases e
  | succ f ih =>
    intro told row h row2 h2 hr e
    unfold itm itB at e
    split at e
    · cases e; exact hr
    · split at e
      · cases e
      · rename_i i hi
        split at e
        · cases e
        · split at e
          · cases e
          · rename_i v h3 hv
            refine ih _ _ _ _ _ ?_ e
            intro j hj
            show (lsT K j).toInt ≤ (if j = i then v else row j).toInt ∧ (if j = i then v else row j).toInt ≤ (msT K j).toInt
            by_cases c : j = i
            · subst c
              rw [if_pos rfl]
              exact numT_ok hv
            · rw [if_neg c]
              exact hr j hj
/-- all that S tells is within its ranges -/
def tST_ok (S : tST) : Prop := rowOk 0 (S.2.2.2 0 0) ∧ (∀ s, s < S.1 → rowOk 1 (S.2.2.2 1 s)) ∧ ∀ w, w < S.2.1 → rowOk 2 (S.2.2.2 2 w)
theorem df_ok {K : Nat} (hK : K < 3) : rowOk K (dfT K) := fun i hi => dfT_ok ⟨K, hK⟩ ⟨i, by have := LK4 K; omega⟩ hi
theorem tcR_inl {r : ((Nat → Int32) × Nat) ⊕ Nat} {f : (Nat → Int32) → tST} {S2 : tST} {p : Nat} (e : tcR r f = .inl (S2, p)) : ∃ row, r = .inl (row, p) ∧ S2 = f row := by
  unfold tcR at e
  split at e
  · cases e
  · rename_i row h2
    cases e
    exact ⟨row, rfl, rfl⟩
theorem tcl_ok {N : Nat} {t : Nat → Int32} {S S2 : tST} {h p : Nat} (hS : tST_ok S) (e : tcl N t S h = .inl (S2, p)) : tST_ok S2 := by
  unfold tcl tcB at e
  split at e
  · obtain ⟨row, e1, rfl⟩ := tcR_inl e
    have hr := itm_ok _ _ _ _ _ _ (df_ok (K := 0) (by omega)) e1
    refine ⟨?_, fun s hs => ?_, fun w hw => ?_⟩
    · show rowOk 0 (ups S.2.2.2 0 0 row 0 0)
      unfold ups
      rw [if_pos ⟨rfl, rfl⟩]
      exact hr
    · show rowOk 1 (ups S.2.2.2 0 0 row 1 s)
      unfold ups
      rw [if_neg (fun q => absurd q.1 (by decide))]
      exact hS.2.1 s hs
    · show rowOk 2 (ups S.2.2.2 0 0 row 2 w)
      unfold ups
      rw [if_neg (fun q => absurd q.1 (by decide))]
      exact hS.2.2 w hw
  · split at e
    · obtain ⟨row, e1, rfl⟩ := tcR_inl e
      have hr := itm_ok _ _ _ _ _ _ (df_ok (K := 1) (by omega)) e1
      refine ⟨?_, fun s hs => ?_, fun w hw => ?_⟩
      · show rowOk 0 (ups S.2.2.2 1 S.1 row 0 0)
        unfold ups
        rw [if_neg (fun q => absurd q.1 (by decide))]
        exact hS.1
      · show rowOk 1 (ups S.2.2.2 1 S.1 row 1 s)
        unfold ups
        by_cases c : s = S.1
        · rw [if_pos ⟨rfl, c⟩]
          exact hr
        · rw [if_neg (fun q => c q.2)]
          have hs : s < S.1 + 1 := hs
          exact hS.2.1 s (by omega)
      · show rowOk 2 (ups S.2.2.2 1 S.1 row 2 w)
        unfold ups
        rw [if_neg (fun q => absurd q.1 (by decide))]
        exact hS.2.2 w hw
    · split at e
      · obtain ⟨row, e1, rfl⟩ := tcR_inl e
        have hr := itm_ok _ _ _ _ _ _ (df_ok (K := 2) (by omega)) e1
        refine ⟨?_, fun s hs => ?_, fun w hw => ?_⟩
        · show rowOk 0 (ups S.2.2.2 2 S.2.1 row 0 0)
          unfold ups
          rw [if_neg (fun q => absurd q.1 (by decide))]
          exact hS.1
        · show rowOk 1 (ups S.2.2.2 2 S.2.1 row 1 s)
          unfold ups
          rw [if_neg (fun q => absurd q.1 (by decide))]
          exact hS.2.1 s hs
        · show rowOk 2 (ups S.2.2.2 2 S.2.1 row 2 w)
          unfold ups
          by_cases c : w = S.2.1
          · rw [if_pos ⟨rfl, c⟩]
            exact hr
          · rw [if_neg (fun q => c q.2)]
            have hw : w < S.2.1 + 1 := hw
            exact hS.2.2 w (by omega)
      · cases e
theorem tw0_ok : tST_ok tw0 := ⟨df_ok (by omega), fun s hs => absurd hs (Nat.not_lt_zero _), fun s hs => absurd hs (Nat.not_lt_zero _)⟩
theorem twR_ok {N : Nat} {t : Nat → Int32} : ∀ f S h S2, tST_ok S → twR N t f S h (.inl S2) → tST_ok S2 ∧ snd S2 := by
  intro f
  induction f with
  | zero => exact fun _ _ _ _ h => h.elim
  | succ f ih =>
    intro S h S2 hS hr
    unfold twR at hr
    revert hr
    generalize hz : tcl N t S h = z
    intro hr
    match z, hz, hr with
    | .inr w, hz, hr => cases hr
    | .inl (S3, p), hz, hr =>
      dsimp only at hr
      have h3 := tcl_ok hS hz
      by_cases c : atv N t p = -1
      · rw [if_pos c] at hr
        rcases hr with ⟨q, e⟩ | ⟨-, e⟩
        · cases e
          exact ⟨h3, q⟩
        · cases e
      · rw [if_neg c] at hr
        exact ih _ _ _ h3 hr
theorem k51_0 : lkc 0 (kcode 51) = some (.iconst 0) := by decide +kernel
theorem k51_1 : lkc 1 (kcode 51) = some (.istore_n 1) := by decide +kernel
theorem k51_2 : lkc 2 (kcode 51) = some (.iconst 0) := by decide +kernel
theorem k51_3 : lkc 3 (kcode 51) = some (.istore_n 2) := by decide +kernel
theorem k51_4 : lkc 4 (kcode 51) = some (.iload_n 2) := by decide +kernel
theorem k51_5 : lkc 5 (kcode 51) = some (.aload_n 0) := by decide +kernel
theorem k51_6 : lkc 6 (kcode 51) = some (.getfield 30) := by decide +kernel
theorem k51_9 : lkc 9 (kcode 51) = some (.if_icmp .ge 22) := by decide +kernel
theorem k51_12 : lkc 12 (kcode 51) = some (.iload_n 1) := by decide +kernel
theorem k51_13 : lkc 13 (kcode 51) = some (.aload_n 0) := by decide +kernel
theorem k51_14 : lkc 14 (kcode 51) = some (.getfield 17) := by decide +kernel
theorem k51_17 : lkc 17 (kcode 51) = some (.iload_n 2) := by decide +kernel
theorem k51_18 : lkc 18 (kcode 51) = some (.aaload) := by decide +kernel
theorem k51_19 : lkc 19 (kcode 51) = some (.iconst 3) := by decide +kernel
theorem k51_20 : lkc 20 (kcode 51) = some (.iaload) := by decide +kernel
theorem k51_21 : lkc 21 (kcode 51) = some (.iload_n 2) := by decide +kernel
theorem k51_22 : lkc 22 (kcode 51) = some (.ishl) := by decide +kernel
theorem k51_23 : lkc 23 (kcode 51) = some (.ior) := by decide +kernel
theorem k51_24 : lkc 24 (kcode 51) = some (.istore_n 1) := by decide +kernel
theorem k51_25 : lkc 25 (kcode 51) = some (.iinc 2 1) := by decide +kernel
theorem k51_28 : lkc 28 (kcode 51) = some (.goto (-24)) := by decide +kernel
theorem k51_31 : lkc 31 (kcode 51) = some (.iload_n 1) := by decide +kernel
theorem k51_32 : lkc 32 (kcode 51) = some (.ireturn) := by decide +kernel
theorem k59_0 : lkc 0 (kcode 59) = some (.aload_n 0) := by decide +kernel
theorem k59_1 : lkc 1 (kcode 59) = some (.aload_n 1) := by decide +kernel
theorem k59_2 : lkc 2 (kcode 59) = some (.invokevirtual 24) := by decide +kernel
theorem k59_5 : lkc 5 (kcode 59) = some (.putfield 30) := by decide +kernel
theorem k59_8 : lkc 8 (kcode 59) = some (.aload_n 0) := by decide +kernel
theorem k59_9 : lkc 9 (kcode 59) = some (.aload_n 1) := by decide +kernel
theorem k59_10 : lkc 10 (kcode 59) = some (.getfield 34) := by decide +kernel
theorem k59_13 : lkc 13 (kcode 59) = some (.iconst 1) := by decide +kernel
theorem k59_14 : lkc 14 (kcode 59) = some (.iaload) := by decide +kernel
theorem k59_15 : lkc 15 (kcode 59) = some (.putfield 37) := by decide +kernel
theorem k59_18 : lkc 18 (kcode 59) = some (.aload_n 0) := by decide +kernel
theorem k59_19 : lkc 19 (kcode 59) = some (.iconst 0) := by decide +kernel
theorem k59_20 : lkc 20 (kcode 59) = some (.putfield 40) := by decide +kernel
theorem k59_23 : lkc 23 (kcode 59) = some (.iconst 0) := by decide +kernel
theorem k59_24 : lkc 24 (kcode 59) = some (.istore_n 2) := by decide +kernel
theorem k59_25 : lkc 25 (kcode 59) = some (.iload_n 2) := by decide +kernel
theorem k59_26 : lkc 26 (kcode 59) = some (.bipush 8) := by decide +kernel
theorem k59_28 : lkc 28 (kcode 59) = some (.if_icmp .ge 23) := by decide +kernel
theorem k59_31 : lkc 31 (kcode 59) = some (.aload_n 0) := by decide +kernel
theorem k59_32 : lkc 32 (kcode 59) = some (.getfield 9) := by decide +kernel
theorem k59_35 : lkc 35 (kcode 59) = some (.iload_n 2) := by decide +kernel
theorem k59_36 : lkc 36 (kcode 59) = some (.iconst 0) := by decide +kernel
theorem k59_37 : lkc 37 (kcode 59) = some (.iastore) := by decide +kernel
theorem k59_38 : lkc 38 (kcode 59) = some (.aload_n 0) := by decide +kernel
theorem k59_39 : lkc 39 (kcode 59) = some (.getfield 15) := by decide +kernel
theorem k59_42 : lkc 42 (kcode 59) = some (.iload_n 2) := by decide +kernel
theorem k59_43 : lkc 43 (kcode 59) = some (.iconst 0) := by decide +kernel
theorem k59_44 : lkc 44 (kcode 59) = some (.iastore) := by decide +kernel
theorem k59_45 : lkc 45 (kcode 59) = some (.iinc 2 1) := by decide +kernel
theorem k59_48 : lkc 48 (kcode 59) = some (.goto (-23)) := by decide +kernel
theorem k59_51 : lkc 51 (kcode 59) = some (.iconst 0) := by decide +kernel
theorem k59_52 : lkc 52 (kcode 59) = some (.istore_n 2) := by decide +kernel
theorem k59_53 : lkc 53 (kcode 59) = some (.iload_n 2) := by decide +kernel
theorem k59_54 : lkc 54 (kcode 59) = some (.iconst 4) := by decide +kernel
theorem k59_55 : lkc 55 (kcode 59) = some (.if_icmp .ge 61) := by decide +kernel
theorem k59_58 : lkc 58 (kcode 59) = some (.aload_n 0) := by decide +kernel
theorem k59_59 : lkc 59 (kcode 59) = some (.getfield 18) := by decide +kernel
theorem k59_62 : lkc 62 (kcode 59) = some (.iload_n 2) := by decide +kernel
theorem k59_63 : lkc 63 (kcode 59) = some (.iload_n 2) := by decide +kernel
theorem k59_64 : lkc 64 (kcode 59) = some (.aload_n 1) := by decide +kernel
theorem k59_65 : lkc 65 (kcode 59) = some (.getfield 43) := by decide +kernel
theorem k59_68 : lkc 68 (kcode 59) = some (.if_icmp .ge 14) := by decide +kernel
theorem k59_71 : lkc 71 (kcode 59) = some (.aload_n 1) := by decide +kernel
theorem k59_72 : lkc 72 (kcode 59) = some (.getfield 46) := by decide +kernel
theorem k59_75 : lkc 75 (kcode 59) = some (.iload_n 2) := by decide +kernel
theorem k59_76 : lkc 76 (kcode 59) = some (.aaload) := by decide +kernel
theorem k59_77 : lkc 77 (kcode 59) = some (.iconst 0) := by decide +kernel
theorem k59_78 : lkc 78 (kcode 59) = some (.iaload) := by decide +kernel
theorem k59_79 : lkc 79 (kcode 59) = some (.goto 4) := by decide +kernel
theorem k59_82 : lkc 82 (kcode 59) = some (.iconst 0) := by decide +kernel
theorem k59_83 : lkc 83 (kcode 59) = some (.iastore) := by decide +kernel
theorem k59_84 : lkc 84 (kcode 59) = some (.aload_n 0) := by decide +kernel
theorem k59_85 : lkc 85 (kcode 59) = some (.getfield 21) := by decide +kernel
theorem k59_88 : lkc 88 (kcode 59) = some (.iload_n 2) := by decide +kernel
theorem k59_89 : lkc 89 (kcode 59) = some (.iload_n 2) := by decide +kernel
theorem k59_90 : lkc 90 (kcode 59) = some (.aload_n 1) := by decide +kernel
theorem k59_91 : lkc 91 (kcode 59) = some (.getfield 43) := by decide +kernel
theorem k59_94 : lkc 94 (kcode 59) = some (.if_icmp .ge 14) := by decide +kernel
theorem k59_97 : lkc 97 (kcode 59) = some (.aload_n 1) := by decide +kernel
theorem k59_98 : lkc 98 (kcode 59) = some (.getfield 46) := by decide +kernel
theorem k59_101 : lkc 101 (kcode 59) = some (.iload_n 2) := by decide +kernel
theorem k59_102 : lkc 102 (kcode 59) = some (.aaload) := by decide +kernel
theorem k59_103 : lkc 103 (kcode 59) = some (.iconst 1) := by decide +kernel
theorem k59_104 : lkc 104 (kcode 59) = some (.iaload) := by decide +kernel
theorem k59_105 : lkc 105 (kcode 59) = some (.goto 4) := by decide +kernel
theorem k59_108 : lkc 108 (kcode 59) = some (.iconst 0) := by decide +kernel
theorem k59_109 : lkc 109 (kcode 59) = some (.iastore) := by decide +kernel
theorem k59_110 : lkc 110 (kcode 59) = some (.iinc 2 1) := by decide +kernel
theorem k59_113 : lkc 113 (kcode 59) = some (.goto (-60)) := by decide +kernel
theorem k59_116 : lkc 116 (kcode 59) = some (.return_) := by decide +kernel
/-! forward: a scene begins (the class) -/
theorem rx_18 : ∀ s : Fin 4, lay (19 + s.val) = (0, 0, 2) ∧ tR 18 s.val = some (19 + s.val) := by decide +kernel
theorem c_wallsTold {m : xM} {S : Nat} {D : Nat → Nat} (hr : rS m) (hS : m.1 3 1 = nI S) (hS12 : S ≤ 12) (hD : ∀ s, s < S → m.1 (6 + s) 3 = nI (D s) ∧ D s ≤ 1) : fC 51 [.ref 3] m (fun rv m' => rv = some (.int (nI (wlT D S))) ∧ m = m') := by
  refine fC_of (by decide) (fun d n P H => ?_)
  have lp : ∀ n s, s ≤ S → xF 51 (xw d) P n 4 [(2, .int (nI s)), (1, .int (nI (wlT D s))), (0, .ref 3)] [] m → ∃ rv m', P rv m' ∧ rv = some (.int (nI (wlT D S))) ∧ m = m' := by
    intro n
    induction n with
    | zero => exact fun s _ H => (xF_0 H).elim
    | succ n ih =>
      intro s hs H
      replace H := f1_iload_n H k51_4 rfl
      replace H := f_aload_n H k51_5 rfl
      replace H := f_gi H k51_6 (ci := 5) (f := 1) (by decide +kernel) (by decide)
      rw [hS] at H
      have Hbr := f_icmp_ge H k51_9 (t := 31) (by decide)
      clear H
      rcases Hbr with ⟨c0, H⟩ | ⟨c0, H⟩
      · rw [nxle (by omega) (by omega)] at c0
        have es : s = S := by omega
        subst es
        replace H := f_iload_n H k51_31 rfl
        replace H := f_iret H k51_32
        exact ⟨_, _, H, rfl, rfl⟩
      · rw [nxle (by omega) (by omega)] at c0
        obtain ⟨d1, d2⟩ := hD s (by omega)
        obtain ⟨Ry, Rt⟩ := rx_5 ⟨s, by omega⟩
        replace Ry : lay (6 + s) = (0, 0, 4) := Ry
        replace Rt : tR 5 s = some (6 + s) := Rt
        obtain ⟨R, hR⟩ : ∃ R, R = 6 + s := ⟨_, rfl⟩
        rw [← hR] at Ry Rt d1
        replace H := f_iload_n H k51_12 rfl
        replace H := f_aload_n H k51_13 rfl
        replace H := f_gr H k51_14 (ci := 5) (f := 5) (x := 5) (by decide +kernel) (by decide) (hr 3 5 5 rfl)
        replace H := f_iload_n H k51_17 rfl
        have Hob := f_aald H k51_18 (x := 6) (c := 12) (v := .ref R) (by decide) ((by rw [nI_clamp (by omega), hr 5 s R Rt]; rfl))
        clear H
        obtain ⟨hb18, H⟩ := Hob
        replace H := f_iconst H k51_19 (v := 3) (by decide)
        have Hob := f_iald H k51_20 (c := 4) Ry
        clear H
        obtain ⟨hb20, H⟩ := Hob
        replace H := f_iload_n H k51_21 rfl
        replace H := f_ishl H k51_22
        replace H := f_ior H k51_23
        rw [show (3 : Int32).toNatClampNeg = 3 by decide, d1, shl_b d2 (by omega), fa_or] at H
        replace H := f_istore_n H k51_24 (l2 := [(1, .int (nI (wlT D (s + 1)))), (2, .int (nI s)), (0, .ref 3)]) rfl
        replace H := f_iinc H k51_25 rfl (l2 := [(2, .int (nI s + 1)), (1, .int (nI (wlT D (s + 1)))), (0, .ref 3)]) rfl
        replace H := f_goto H k51_28 (t := 4) (by decide)
        rw [nI_s] at H
        exact ih (s + 1) (by omega) H
  replace H := f_iconst H k51_0 (v := 0) (by decide)
  replace H := f_istore_n H k51_1 (l2 := [(1, .int 0), (0, .ref 3)]) rfl
  replace H := f_iconst H k51_2 (v := 0) (by decide)
  replace H := f_istore_n H k51_3 (l2 := [(2, .int 0), (1, .int 0), (0, .ref 3)]) rfl
  exact lp n 0 (Nat.zero_le _) H
def bgO (w W : Nat) (m m' : xM) : Prop := m'.2 = m.2 ∧ (∀ a i, ¬ (89 ≤ a ∧ a ≤ 93) → m'.1 a i = m.1 a i) ∧ m'.1 89 0 = nI w ∧ m'.1 89 1 = m.1 4 1 ∧ m'.1 89 2 = 0 ∧ (∀ e, e < 8 → m'.1 90 e = 0 ∧ m'.1 91 e = 0) ∧ ∀ p, p < 4 → m'.1 92 p = (if p < W then m.1 (19 + p) 0 else 0) ∧ m'.1 93 p = (if p < W then m.1 (19 + p) 1 else 0)
set_option maxHeartbeats 4000000 in
theorem c_sbegin {m : xM} {S W : Nat} {D : Nat → Nat} (hr : rS m) (hS : m.1 3 1 = nI S) (hS12 : S ≤ 12) (hD : ∀ s, s < S → m.1 (6 + s) 3 = nI (D s) ∧ D s ≤ 1) (hW : m.1 3 2 = nI W) (hW4 : W ≤ 4) : fC 59 [.ref 89, .ref 3] m (fun rv m' => rv = none ∧ bgO (wlT D S) W m m') := by
  refine fC_of (by decide) (fun d n P H => ?_)
  have c1 : (1 : Int32).toNatClampNeg = 1 := by decide
  have c0 : (0 : Int32).toNatClampNeg = 0 := by decide
  have lW : ∀ n p m2, p ≤ 4 → m2.2 = m.2 → (∀ a i, ¬ (89 ≤ a ∧ a ≤ 93) → m2.1 a i = m.1 a i) → m2.1 89 0 = nI (wlT D S) → m2.1 89 1 = m.1 4 1 → m2.1 89 2 = 0 → (∀ e, e < 8 → m2.1 90 e = 0 ∧ m2.1 91 e = 0) → (∀ q, q < p → m2.1 92 q = (if q < W then m.1 (19 + q) 0 else 0) ∧ m2.1 93 q = (if q < W then m.1 (19 + q) 1 else 0)) → xF 59 (xw d) P n 53 [(2, .int (nI p)), (0, .ref 89), (1, .ref 3)] [] m2 → ∃ rv m', P rv m' ∧ rv = none ∧ bgO (wlT D S) W m m' := by
    intro n
    induction n with
    | zero => exact fun p m2 _ _ _ _ _ _ _ _ H => (xF_0 H).elim
    | succ n ih =>
      intro p m2 hp e2 hf g0 g1 g2 ge gp H
      have hr2 : rS m2 := fun a i b q => by rw [e2]; exact hr a i b q
      have hr := hr2
      have hW2 : m2.1 3 2 = nI W := by rw [hf 3 2 (by omega)]; exact hW
      replace H := f1_iload_n H k59_53 rfl
      replace H := f_iconst H k59_54 (v := 4) (by decide)
      rw [show (4 : Int32) = nI 4 from rfl] at H
      have Hbr := f_icmp_ge H k59_55 (t := 116) (by decide)
      clear H
      rcases Hbr with ⟨k0, H⟩ | ⟨k0, H⟩
      · rw [nxle (by omega) (by omega)] at k0
        replace H := f_ret H k59_116
        exact ⟨_, _, H, rfl, e2, hf, g0, g1, g2, ge, fun q hq => gp q (by omega)⟩
      · rw [nxle (by omega) (by omega)] at k0
        obtain ⟨Ry, Rt⟩ := rx_18 ⟨p, by omega⟩
        replace Ry : lay (19 + p) = (0, 0, 2) := Ry
        replace Rt : tR 18 p = some (19 + p) := Rt
        obtain ⟨R, hR⟩ : ∃ R, R = 19 + p := ⟨_, rfl⟩
        have hrow : ∀ i, m2.1 R i = m.1 (19 + p) i := fun i => by rw [hR]; exact hf _ i (by omega)
        rw [← hR] at Ry Rt
        have f2 : ∀ v u : Int32, v = (if p < W then m.1 (19 + p) 0 else 0) → u = (if p < W then m.1 (19 + p) 1 else 0) → xF 59 (xw d) P n 109 [(2, .int (nI p)), (0, .ref 89), (1, .ref 3)] [.int u, .int (nI p), .ref 93] (mI m2 92 p v) → ∃ rv m', P rv m' ∧ rv = none ∧ bgO (wlT D S) W m m' := by
          intro v u hv hu H
          have Hob := f_iast H k59_109 (c := 4) (by decide)
          clear H
          obtain ⟨hb109, H⟩ := Hob
          replace H := f_iinc H k59_110 rfl (l2 := [(2, .int (nI p + 1)), (0, .ref 89), (1, .ref 3)]) rfl
          replace H := f_goto H k59_113 (t := 53) (by decide)
          rw [nI_clamp (by omega), nI_s] at H
          refine ih (p + 1) (mI (mI m2 92 p v) 93 p u) (by omega) e2 (fun a i h => ?_) ?_ ?_ ?_ (fun e he => ?_) (fun q hq => ?_) H
          · rw [mI_ne (by omega), mI_ne (by omega)]; exact hf a i h
          · rw [mI_ne (by omega), mI_ne (by omega)]; exact g0
          · rw [mI_ne (by omega), mI_ne (by omega)]; exact g1
          · rw [mI_ne (by omega), mI_ne (by omega)]; exact g2
          · rw [mI_ne (by omega), mI_ne (by omega), mI_ne (by omega), mI_ne (by omega)]; exact ge e he
          · by_cases e : q = p
            · subst e
              rw [mI_ne (by omega), mI_at, mI_at]
              exact ⟨hv, hu⟩
            · rw [mI_ne (by omega), mI_ne (by omega), mI_ne (by omega), mI_ne (by omega)]
              exact gp q (by omega)
        have f1 : ∀ v : Int32, v = (if p < W then m.1 (19 + p) 0 else 0) → xF 59 (xw d) P n 83 [(2, .int (nI p)), (0, .ref 89), (1, .ref 3)] [.int v, .int (nI p), .ref 92] m2 → ∃ rv m', P rv m' ∧ rv = none ∧ bgO (wlT D S) W m m' := by
          intro v hv H
          have Hob := f_iast H k59_83 (c := 4) (by decide)
          clear H
          obtain ⟨hb83, H⟩ := Hob
          rw [show (nI p).toNatClampNeg = p from nI_clamp (by omega)] at H
          replace H := f_aload_n H k59_84 rfl
          replace H := f_gr H k59_85 (ci := 6) (f := 6) (x := 93) (by decide +kernel) (by decide) (hr 89 6 93 rfl)
          replace H := f_iload_n H k59_88 rfl
          replace H := f_iload_n H k59_89 rfl
          replace H := f_aload_n H k59_90 rfl
          replace H := f_gi H k59_91 (ci := 5) (f := 2) (by decide +kernel) (by decide)
          rw [mI_ne (by omega), hW2] at H
          have Hbr := f_icmp_ge H k59_94 (t := 108) (by decide)
          clear H
          rcases Hbr with ⟨k2, H⟩ | ⟨k2, H⟩
          · rw [nxle (by omega) (by omega)] at k2
            replace H := f_iconst H k59_108 (v := 0) (by decide)
            exact f2 v 0 hv (by rw [if_neg (by omega)]) H
          · rw [nxle (by omega) (by omega)] at k2
            replace H := f_aload_n H k59_97 rfl
            replace H := f_gr H k59_98 (ci := 5) (f := 6) (x := 18) (by decide +kernel) (by decide) (hr 3 6 18 rfl)
            replace H := f_iload_n H k59_101 rfl
            have Hob := f_aald H k59_102 (x := 6) (c := 4) (v := .ref R) (by decide) ((by show rvl (m2.2.2 18 (nI p).toNatClampNeg) = _; rw [nI_clamp (by omega), hr 18 p R Rt]; rfl))
            clear H
            obtain ⟨hb102, H⟩ := Hob
            replace H := f_iconst H k59_103 (v := 1) (by decide)
            have Hob := f_iald H k59_104 (c := 2) Ry
            clear H
            obtain ⟨hb104, H⟩ := Hob
            replace H := f_goto H k59_105 (t := 109) (by decide)
            rw [c1, mI_ne (by omega), hrow] at H
            exact f2 v _ hv (by rw [if_pos (by omega)]) H
        replace H := f_aload_n H k59_58 rfl
        replace H := f_gr H k59_59 (ci := 6) (f := 5) (x := 92) (by decide +kernel) (by decide) (hr 89 5 92 rfl)
        replace H := f_iload_n H k59_62 rfl
        replace H := f_iload_n H k59_63 rfl
        replace H := f_aload_n H k59_64 rfl
        replace H := f_gi H k59_65 (ci := 5) (f := 2) (by decide +kernel) (by decide)
        rw [hW2] at H
        have Hbr := f_icmp_ge H k59_68 (t := 82) (by decide)
        clear H
        rcases Hbr with ⟨k2, H⟩ | ⟨k2, H⟩
        · rw [nxle (by omega) (by omega)] at k2
          replace H := f_iconst H k59_82 (v := 0) (by decide)
          exact f1 0 (by rw [if_neg (by omega)]) H
        · rw [nxle (by omega) (by omega)] at k2
          replace H := f_aload_n H k59_71 rfl
          replace H := f_gr H k59_72 (ci := 5) (f := 6) (x := 18) (by decide +kernel) (by decide) (hr 3 6 18 rfl)
          replace H := f_iload_n H k59_75 rfl
          have Hob := f_aald H k59_76 (x := 6) (c := 4) (v := .ref R) (by decide) ((by rw [nI_clamp (by omega), hr 18 p R Rt]; rfl))
          clear H
          obtain ⟨hb76, H⟩ := Hob
          replace H := f_iconst H k59_77 (v := 0) (by decide)
          have Hob := f_iald H k59_78 (c := 2) Ry
          clear H
          obtain ⟨hb78, H⟩ := Hob
          replace H := f_goto H k59_79 (t := 83) (by decide)
          rw [c0, hrow] at H
          exact f1 _ (by rw [if_pos (by omega)]) H
  have lE : ∀ n e m2, e ≤ 8 → m2.2 = m.2 → (∀ a i, ¬ (89 ≤ a ∧ a ≤ 93) → m2.1 a i = m.1 a i) → m2.1 89 0 = nI (wlT D S) → m2.1 89 1 = m.1 4 1 → m2.1 89 2 = 0 → (∀ q, q < e → m2.1 90 q = 0 ∧ m2.1 91 q = 0) → xF 59 (xw d) P n 25 [(2, .int (nI e)), (0, .ref 89), (1, .ref 3)] [] m2 → ∃ rv m', P rv m' ∧ rv = none ∧ bgO (wlT D S) W m m' := by
    intro n
    induction n with
    | zero => exact fun p m2 _ _ _ _ _ _ _ H => (xF_0 H).elim
    | succ n ih =>
      intro e m2 he e2 hf g0 g1 g2 ge H
      have hr2 : rS m2 := fun a i b q => by rw [e2]; exact hr a i b q
      have hr := hr2
      replace H := f1_iload_n H k59_25 rfl
      replace H := f_bipush H k59_26 (v := 8) (by decide)
      rw [show (8 : Int32) = nI 8 from rfl] at H
      have Hbr := f_icmp_ge H k59_28 (t := 51) (by decide)
      clear H
      rcases Hbr with ⟨k0, H⟩ | ⟨k0, H⟩
      · rw [nxle (by omega) (by omega)] at k0
        replace H := f_iconst H k59_51 (v := 0) (by decide)
        replace H := f_istore_n H k59_52 (l2 := [(2, .int 0), (0, .ref 89), (1, .ref 3)]) rfl
        exact lW n 0 m2 (by omega) e2 hf g0 g1 g2 (fun q hq => ge q (by omega)) (fun q hq => absurd hq (Nat.not_lt_zero _)) H
      · rw [nxle (by omega) (by omega)] at k0
        replace H := f_aload_n H k59_31 rfl
        replace H := f_gr H k59_32 (ci := 6) (f := 3) (x := 90) (by decide +kernel) (by decide) (hr 89 3 90 rfl)
        replace H := f_iload_n H k59_35 rfl
        replace H := f_iconst H k59_36 (v := 0) (by decide)
        have Hob := f_iast H k59_37 (c := 8) (by decide)
        clear H
        obtain ⟨hb37, H⟩ := Hob
        replace H := f_aload_n H k59_38 rfl
        replace H := f_gr H k59_39 (ci := 6) (f := 4) (x := 91) (by decide +kernel) (by decide) (hr 89 4 91 rfl)
        replace H := f_iload_n H k59_42 rfl
        replace H := f_iconst H k59_43 (v := 0) (by decide)
        have Hob := f_iast H k59_44 (c := 8) (by decide)
        clear H
        obtain ⟨hb44, H⟩ := Hob
        replace H := f_iinc H k59_45 rfl (l2 := [(2, .int (nI e + 1)), (0, .ref 89), (1, .ref 3)]) rfl
        replace H := f_goto H k59_48 (t := 25) (by decide)
        rw [nI_clamp (by omega), nI_s] at H
        refine ih (e + 1) (mI (mI m2 90 e 0) 91 e 0) (by omega) e2 (fun a i h => ?_) ?_ ?_ ?_ (fun q hq => ?_) H
        · rw [mI_ne (by omega), mI_ne (by omega)]; exact hf a i h
        · rw [mI_ne (by omega), mI_ne (by omega)]; exact g0
        · rw [mI_ne (by omega), mI_ne (by omega)]; exact g1
        · rw [mI_ne (by omega), mI_ne (by omega)]; exact g2
        · by_cases ee : q = e
          · subst ee
            rw [mI_ne (by omega), mI_at, mI_at]
            exact ⟨rfl, rfl⟩
          · rw [mI_ne (by omega), mI_ne (by omega), mI_ne (by omega), mI_ne (by omega)]
            exact ge q (by omega)
  replace H := f_aload_n H k59_0 rfl
  replace H := f_aload_n H k59_1 rfl
  obtain ⟨rv, m3, ⟨rfl, e3⟩, h9_2⟩ := f_inv H k59_2 (by decide +kernel) (as := []) (b := 3) (r := [.ref 89]) (by rfl) (c_wallsTold hr hS hS12 hD)
  replace H := h9_2
  rw [← e3] at H
  clear e3
  replace H := f_put_i H k59_5 (ci := 6) (f := 0) (by decide +kernel) (by decide)
  replace H := f_aload_n H k59_8 rfl
  replace H := f_aload_n H k59_9 rfl
  replace H := f_gr H k59_10 (ci := 5) (f := 4) (x := 4) (by decide +kernel) (by decide) (hr 3 4 4 rfl)
  replace H := f_iconst H k59_13 (v := 1) (by decide)
  have Hob := f_iald H k59_14 (c := 2) (by decide)
  clear H
  obtain ⟨hb14, H⟩ := Hob
  replace H := f_put_i H k59_15 (ci := 6) (f := 1) (by decide +kernel) (by decide)
  replace H := f_aload_n H k59_18 rfl
  replace H := f_iconst H k59_19 (v := 0) (by decide)
  replace H := f_put_i H k59_20 (ci := 6) (f := 2) (by decide +kernel) (by decide)
  rw [c1] at H
  replace H := f_iconst H k59_23 (v := 0) (by decide)
  replace H := f_istore_n H k59_24 (l2 := [(2, .int 0), (0, .ref 89), (1, .ref 3)]) rfl
  refine lE n 0 (mI (mI (mI m 89 0 (nI (wlT D S))) 89 1 _) 89 2 0) (by omega) rfl (fun a i h => ?_) ?_ ?_ mI_at (fun q hq => absurd hq (Nat.not_lt_zero _)) H
  · rw [mI_ne (by omega), mI_ne (by omega), mI_ne (by omega)]
  · rw [mI_ne (by omega), mI_ne (by omega), mI_at]
  · rw [mI_ne (by omega), mI_at, mI_ne (by omega)]

/-! forward: what a town's text leaves behind, the class -/
def tD (S : tST) : Nat → Nat := fun s => (S.2.2.2 1 s 3).toInt.toNat
theorem tD_ok {S : tST} (h : tST_ok S) {s : Nat} (hs : s < S.1) : S.2.2.2 1 s 3 = nI (tD S s) ∧ tD S s ≤ 1 := by
  have h1 := h.2.1 s hs 3 (by decide)
  rw [show (lsT 1 3).toInt = 0 by decide, show (msT 1 3).toInt = 1 by decide] at h1
  unfold tD
  exact ⟨Int32.toInt_inj.mp (by rw [nI_toInt (by omega)]; omega), by omega⟩
/-- what the class's town is behind a town's text -/
def xtO (S : tST) (m : xM) : Prop := m.1 3 0 = S.2.2.2 0 0 0 ∧ m.1 3 1 = nI S.1 ∧ m.1 3 2 = nI S.2.1 ∧ (∀ s i, s < S.1 → i < 4 → m.1 (6 + s) i = S.2.2.2 1 s i) ∧ (∀ c, c < 8 → m.1 23 c = tchF S.2.2.2 c S.1) ∧ m.1 0 15 = 0 ∧ m.1 84 4 = 0 ∧ m.1 99 2 = 0 ∧ m.1 89 0 = nI (wlT (tD S) S.1) ∧ m.1 89 1 = S.2.2.2 0 0 1 ∧ m.1 89 2 = 0 ∧ (∀ e, e < 8 → m.1 90 e = 0 ∧ m.1 91 e = 0) ∧ ∀ p, p < 4 → m.1 92 p = (if p < S.2.1 then S.2.2.2 2 p 0 else 0) ∧ m.1 93 p = (if p < S.2.1 then S.2.2.2 2 p 1 else 0)
def xtF (m m' : xM) : Prop := ∀ a i, (a = 0 ∧ i = 16) ∨ (84 ≤ a ∧ ¬ (89 ≤ a ∧ a ≤ 93) ∧ ¬ (a = 84 ∧ i = 4) ∧ ¬ (a = 99 ∧ i = 2)) → m'.1 a i = m.1 a i
set_option maxHeartbeats 2000000 in
theorem c_settleD {m : xM} {S : tST} (hI : gI tS tR m) (hS : clF m S) (hok : tST_ok S) : fC 100 [.ref 0] m (fun rv m' => xtO S m' ∧ xtF m m') := by
  refine fC_of (by decide) (fun d n P H => ?_)
  obtain ⟨⟨s1, s2, s3, s4, s5, s6, s7, s8, s9⟩, s10, s11⟩ := hS
  have hr : rS m := hI.2
  replace H := f_aload_n H k100_0 rfl
  replace H := f_gr H k100_1 (ci := 11) (f := 1) (x := 3) (by decide +kernel) (by decide) (hr 0 1 3 rfl)
  replace H := f_aload_n H k100_4 rfl
  replace H := f_gr H k100_5 (ci := 11) (f := 2) (x := 24) (by decide +kernel) (by decide) (hr 0 2 24 rfl)
  obtain ⟨rv, m1, ⟨rfl, b1⟩, h9_8⟩ := f_inv H k100_8 (by decide +kernel) (as := [.ref 24]) (b := 3) (r := []) (by rfl) (c_become hr)
  replace H := h9_8
  obtain ⟨b1, b2, b3, b4, b5, b6, b7⟩ := b1
  have hr1 : rS m1 := fun a i b q => by rw [b1]; exact hr a i b q
  have hr := hr1
  have e1 : m1.1 3 1 = nI S.1 := by rw [b3 1 (by omega)]; exact s1
  have e2 : m1.1 3 2 = nI S.2.1 := by rw [b3 2 (by omega)]; exact s2
  have eD : ∀ s, s < S.1 → m1.1 (6 + s) 3 = nI (tD S s) ∧ tD S s ≤ 1 := fun s hs => by
    rw [b5 s 3 (by omega) (by omega), s5 s 3 hs (by omega)]
    exact tD_ok hok hs
  replace H := f_aload_n H k100_11 rfl
  replace H := f_gr H k100_12 (ci := 11) (f := 9) (x := 89) (by decide +kernel) (by decide) (hr 0 9 89 rfl)
  replace H := f_aload_n H k100_15 rfl
  replace H := f_gr H k100_16 (ci := 11) (f := 1) (x := 3) (by decide +kernel) (by decide) (hr 0 1 3 rfl)
  obtain ⟨rv, m2, ⟨rfl, g1⟩, h9_19⟩ := f_inv H k100_19 (by decide +kernel) (as := [.ref 3]) (b := 89) (r := []) (by rfl) (c_sbegin hr e1 s7 eD e2 s8)
  replace H := h9_19
  obtain ⟨g1, g2, g3, g4, g5, g6, g7⟩ := g1
  have hr2 : rS m2 := fun a i b q => by rw [g1]; exact hr a i b q
  have hr := hr2
  replace H := f_aload_n H k100_22 rfl
  replace H := f_gr H k100_23 (ci := 11) (f := 8) (x := 84) (by decide +kernel) (by decide) (hr 0 8 84 rfl)
  replace H := f_iconst H k100_26 (v := 0) (by decide)
  replace H := f_put_i H k100_27 (ci := 7) (f := 4) (by decide +kernel) (by decide)
  replace H := f_aload_n H k100_30 rfl
  replace H := f_gr H k100_31 (ci := 11) (f := 11) (x := 99) (by decide +kernel) (by decide) (hr 0 11 99 rfl)
  obtain ⟨rv, m3, ⟨rfl, rfl⟩, h9_34⟩ := f_inv H k100_34 (by decide +kernel) (as := []) (b := 99) (r := []) (by rfl) (c_forget)
  replace H := h9_34
  replace H := f_aload_n H k100_37 rfl
  replace H := f_iconst H k100_38 (v := 0) (by decide)
  replace H := f_put_b H k100_39 (ci := 11) (f := 15) (by decide +kernel) (by decide)
  replace H := f_aload_n H k100_42 rfl
  replace H := f_gr H k100_43 (ci := 11) (f := 1) (x := 3) (by decide +kernel) (by decide) (hr 0 1 3 rfl)
  replace H := f_gi H k100_46 (ci := 5) (f := 1) (by decide +kernel) (by decide)
  replace H := f_iret H k100_49
  have k1 : ∀ a i, ¬ (a = 0 ∧ i = 15) → ¬ (a = 99 ∧ i = 2) → ¬ (a = 84 ∧ i = 4) → (mI (mI (mI m2 84 4 0) 99 2 0) 0 15 0).1 a i = m2.1 a i := fun a i h1 h2 h3 => by rw [mI_ne h1, mI_ne h2, mI_ne h3]
  refine ⟨_, _, H, ⟨?_, ?_, ?_, fun s i hs hi => ?_, fun c hc => ?_, mI_at, ?_, ?_, ?_, ?_, ?_, fun e he => ⟨?_, ?_⟩, fun p hp => ⟨?_, ?_⟩⟩, fun a i hq => ?_⟩
  · rw [k1 _ _ (by omega) (by omega) (by omega), g2 3 0 (by omega), b3 0 (by omega)]; exact s10
  · rw [k1 _ _ (by omega) (by omega) (by omega), g2 3 1 (by omega)]; exact e1
  · rw [k1 _ _ (by omega) (by omega) (by omega), g2 3 2 (by omega)]; exact e2
  · rw [k1 _ _ (by omega) (by omega) (by omega), g2 _ i (by omega), b5 s i (by omega) hi]; exact s5 s i hs hi
  · rw [k1 _ _ (by omega) (by omega) (by omega), g2 _ c (by omega), b7 c hc]; exact s11 c hc
  · rw [mI_ne (by omega), mI_ne (by omega), mI_at]
  · rw [mI_ne (by omega), mI_at]
  · rw [k1 _ _ (by omega) (by omega) (by omega)]; exact g3
  · rw [k1 _ _ (by omega) (by omega) (by omega), g4, b4 1 (by omega)]; exact s4 1 (by omega)
  · rw [k1 _ _ (by omega) (by omega) (by omega)]; exact g5
  · rw [k1 _ _ (by omega) (by omega) (by omega)]; exact (g6 e he).1
  · rw [k1 _ _ (by omega) (by omega) (by omega)]; exact (g6 e he).2
  · rw [k1 _ _ (by omega) (by omega) (by omega), (g7 p hp).1]
    by_cases c : p < S.2.1
    · rw [if_pos c, if_pos c, b6 p 0 hp (by omega)]; exact s6 p 0 c (by omega)
    · rw [if_neg c, if_neg c]
  · rw [k1 _ _ (by omega) (by omega) (by omega), (g7 p hp).2]
    by_cases c : p < S.2.1
    · rw [if_pos c, if_pos c, b6 p 1 hp (by omega)]; exact s6 p 1 c (by omega)
    · rw [if_neg c, if_neg c]
  · rw [k1 _ _ (by omega) (by omega) (by omega), g2 _ _ (by omega), b2 _ _ (by omega)]
def xtK (m m' : xM) : Prop := ∀ a i, a = 0 ∨ (3 ≤ a ∧ a ≤ 23) ∨ 84 ≤ a → m'.1 a i = m.1 a i
set_option maxHeartbeats 4000000 in
theorem c_textD {m : xM} {N : Nat} {t : Nat → Int32} {z : Int32} (hI : gI tS tR m) (h1 : m.1 1 1 = nI N) (hN : N ≤ 240) (h2 : m.1 2 = t) : fC 99 [.ref 0, .int z] m (fun rv m' => (¬ (z = 0 ∧ FA N t z (-1)) ∧ xtK m m') ∨ (z = 0 ∧ ∃ S f, twR N t f tw0 0 (.inl S) ∧ xtO S m' ∧ xtF m m')) := by
  refine fC_of (by decide) (fun d n P H => ?_)
  have hr : rS m := hI.2
  replace H := f_aload_n H k99_0 rfl
  replace H := f_iload_n H k99_1 rfl
  obtain ⟨rv, m1, ⟨⟨v, rfl, fa, f0, f2⟩, hI1, fr, -⟩, h9_2⟩ := f_inv H k99_2 (by decide +kernel) (as := [.int _]) (b := 0) (r := []) (by rfl) (fC_two (c_fault hr h1 hN h2) (fC_vC q100 hI jTok ⟨aR_a 0, aI_a z, trivial⟩ gF_nil))
  replace H := h9_2
  have h9 : ∀ q ∈ q100c.2.2.2.2, q.1 ≠ 0 ∧ (q.1 < 3 ∨ 23 < q.1) ∧ q.1 < 84 := by decide
  have hf : xtK m m1 := fun a i h => fr a i (wm_f (fun q hq z => by have := h9 q hq; omega))
  have hr : rS m1 := hI1.2
  have h95 : ∀ q ∈ q102c.2.2.2.2, q.1 ≠ 0 ∧ 23 < q.1 ∧ q.1 < 84 := by decide
  have h96 : ∀ q ∈ q101c.2.2.2.2, q.1 ≠ 0 ∧ 23 < q.1 ∧ q.1 < 84 := by decide
  have key : ∀ n (x l2 : Int32) m2, (¬ (z = 0 ∧ FA N t z (-1))) → rS m2 → xtK m m2 → xF 99 (xw d) P n 58 [(2, .int l2), (0, .ref 0), (1, .int x)] [] m2 → ∃ rv m', P rv m' ∧ ((¬ (z = 0 ∧ FA N t z (-1)) ∧ xtK m m') ∨ (z = 0 ∧ ∃ S f, twR N t f tw0 0 (.inl S) ∧ xtO S m' ∧ xtF m m')) := by
    intro n x l2 m2 hn hr hk H
    replace H := f_iload_n H k99_58 rfl
    replace H := f_iconst H k99_59 (v := -1) (by decide)
    have Hbr := f_icmp_eq H k99_60 (t := 71) (by decide)
    clear H
    rcases Hbr with ⟨c, H⟩ | ⟨c, H⟩
    · replace H := f_iload_n H k99_71 rfl
      replace H := f_iret H k99_72
      exact ⟨_, _, H, Or.inl ⟨hn, hk⟩⟩
    · replace H := f_aload_n H k99_63 rfl
      replace H := f_gr H k99_64 (ci := 11) (f := 0) (x := 1) (by decide +kernel) (by decide) (hr 0 0 1 rfl)
      replace H := f_iconst H k99_67 (v := 0) (by decide)
      replace H := f_put_i H k99_68 (ci := 8) (f := 1) (by decide +kernel) (by decide)
      replace H := f_iload_n H k99_71 rfl
      replace H := f_iret H k99_72
      exact ⟨_, _, H, Or.inl ⟨hn, fun a i h => by rw [mI_ne (by omega)]; exact hk a i h⟩⟩
  replace H := f_iconst H k99_5 (v := -1) (by decide)
  have Hbr := f_icmp_eq H k99_6 (t := 11) (by decide)
  clear H
  rcases Hbr with ⟨c0, H⟩ | ⟨c0, H⟩
  · rw [c0] at fa
    have f0 := fun q => f0 q c0
    replace H := f_iconst H k99_11 (v := -1) (by decide)
    replace H := f_istore_n H k99_12 (l2 := [(2, .int (-1)), (0, .ref 0), (1, .int z)]) rfl
    replace H := f_iload_n H k99_13 rfl
    have Hbr := f_if_ne H k99_14 (t := 25) (by decide)
    clear H
    rcases Hbr with ⟨c1, H⟩ | ⟨c1, H⟩
    · have hn : ¬ (z = 0 ∧ FA N t z (-1)) := fun q => c1 q.1
      replace H := f_iload_n H k99_25 rfl
      replace H := f_iconst H k99_26 (v := 1) (by decide)
      have Hbr := f_icmp_ne H k99_27 (t := 45) (by decide)
      clear H
      rcases Hbr with ⟨c2, H⟩ | ⟨c2, H⟩
      · replace H := f_iload_n H k99_45 rfl
        replace H := f_iconst H k99_46 (v := 2) (by decide)
        have Hbr := f_icmp_ne H k99_47 (t := 58) (by decide)
        clear H
        rcases Hbr with ⟨c3, H⟩ | ⟨c3, H⟩
        · exact key _ _ _ m1 hn hr hf H
        · replace H := f_aload_n H k99_50 rfl
          replace H := f_gr H k99_51 (ci := 11) (f := 5) (x := 55) (by decide +kernel) (by decide) (hr 0 5 55 rfl)
          obtain ⟨rv, m2, ⟨⟨v9, rfl⟩, hI2, fr2, -⟩, h9_54⟩ := f_inv H k99_54 (by decide +kernel) (as := []) (b := 55) (r := []) (by rfl) (fC_two (fC_int (j := 79) (by decide) (by decide +kernel)) (fC_vC q101 hI1 jTok ⟨aR_a 55, trivial⟩ gF_nil))
          replace H := h9_54
          replace H := f_istore_n H k99_57 (l2 := [(2, .int _), (0, .ref 0), (1, .int z)]) rfl
          exact key _ _ _ m2 hn hI2.2 (fun a i h => by rw [fr2 a i (wm_f (fun q hq z => by have := h96 q hq; omega))]; exact hf a i h) H
      · replace H := f_aload_n H k99_30 rfl
        replace H := f_gr H k99_31 (ci := 11) (f := 4) (x := 47) (by decide +kernel) (by decide) (hr 0 4 47 rfl)
        replace H := f_aload_n H k99_34 rfl
        replace H := f_gr H k99_35 (ci := 11) (f := 3) (x := 45) (by decide +kernel) (by decide) (hr 0 3 45 rfl)
        obtain ⟨rv, m2, ⟨⟨v9, rfl⟩, hI2, fr2, -⟩, h9_38⟩ := f_inv H k99_38 (by decide +kernel) (as := [.ref 45]) (b := 47) (r := []) (by rfl) (fC_two (fC_int (j := 26) (by decide) (by decide +kernel)) (fC_vC q102 hI1 jTok ⟨aR_a 47, aR_a 45, trivial⟩ gF_nil))
        replace H := h9_38
        replace H := f_istore_n H k99_41 (l2 := [(2, .int _), (0, .ref 0), (1, .int z)]) rfl
        replace H := f_goto H k99_42 (t := 58) (by decide)
        exact key _ _ _ m2 hn hI2.2 (fun a i h => by rw [fr2 a i (wm_f (fun q hq z => by have := h95 q hq; omega))]; exact hf a i h) H
    · obtain ⟨S, f, q1, q2, q3⟩ := f0 c1
      have hok := twR_ok f tw0 0 S tw0_ok q1
      replace H := f_aload_n H k99_17 rfl
      obtain ⟨rv, m2, ⟨⟨⟨v9, rfl⟩, hI2, -⟩, x1, x2⟩, h9_18⟩ := f_inv H k99_18 (by decide +kernel) (as := []) (b := 0) (r := []) (by rfl) (fC_two (fC_two (fC_int (j := 100) (by decide) (by decide +kernel)) (fC_vC q107 hI1 jTok ⟨aR_a 0, trivial⟩ gF_nil)) (c_settleD hI1 q2 hok.1))
      replace H := h9_18
      have hr : rS m2 := hI2.2
      have fin : ∀ m3, (∀ a i, ¬ (a = 1 ∧ i = 1) → m3.1 a i = m2.1 a i) → xtO S m3 ∧ xtF m m3 := by
        intro m3 h3
        obtain ⟨y0, y1, y2, y3, y4, y5, y6, y7, y8, y9, y10, y11, y12⟩ := x1
        refine ⟨⟨?_, ?_, ?_, fun s i hs hi => ?_, fun c hc => ?_, ?_, ?_, ?_, ?_, ?_, ?_, fun e he => ⟨?_, ?_⟩, fun p hp => ⟨?_, ?_⟩⟩, fun a i h => ?_⟩
        · rw [h3 _ _ (by omega)]; exact y0
        · rw [h3 _ _ (by omega)]; exact y1
        · rw [h3 _ _ (by omega)]; exact y2
        · rw [h3 _ _ (by omega)]; exact y3 s i hs hi
        · rw [h3 _ _ (by omega)]; exact y4 c hc
        · rw [h3 _ _ (by omega)]; exact y5
        · rw [h3 _ _ (by omega)]; exact y6
        · rw [h3 _ _ (by omega)]; exact y7
        · rw [h3 _ _ (by omega)]; exact y8
        · rw [h3 _ _ (by omega)]; exact y9
        · rw [h3 _ _ (by omega)]; exact y10
        · rw [h3 _ _ (by omega)]; exact (y11 e he).1
        · rw [h3 _ _ (by omega)]; exact (y11 e he).2
        · rw [h3 _ _ (by omega)]; exact (y12 p hp).1
        · rw [h3 _ _ (by omega)]; exact (y12 p hp).2
        · rw [h3 _ _ (by omega), x2 a i h, hf a i (by omega)]
      replace H := f_istore_n H k99_21 (l2 := [(2, .int _), (0, .ref 0), (1, .int z)]) rfl
      replace H := f_goto H k99_22 (t := 58) (by decide)
      replace H := f_iload_n H k99_58 rfl
      replace H := f_iconst H k99_59 (v := -1) (by decide)
      have Hbr := f_icmp_eq H k99_60 (t := 71) (by decide)
      clear H
      rcases Hbr with ⟨c, H⟩ | ⟨c, H⟩
      · replace H := f_iload_n H k99_71 rfl
        replace H := f_iret H k99_72
        exact ⟨_, _, H, Or.inr ⟨c1, S, f, q1, fin m2 (fun _ _ _ => rfl)⟩⟩
      · replace H := f_aload_n H k99_63 rfl
        replace H := f_gr H k99_64 (ci := 11) (f := 0) (x := 1) (by decide +kernel) (by decide) (hr 0 0 1 rfl)
        replace H := f_iconst H k99_67 (v := 0) (by decide)
        replace H := f_put_i H k99_68 (ci := 8) (f := 1) (by decide +kernel) (by decide)
        replace H := f_iload_n H k99_71 rfl
        replace H := f_iret H k99_72
        exact ⟨_, _, H, Or.inr ⟨c1, S, f, q1, fin _ (fun a i h => mI_ne (fun q => h q))⟩⟩
  · replace H := f_iconst H k99_9 (v := -1) (by decide)
    replace H := f_iret H k99_10
    exact ⟨_, _, H, Or.inl ⟨fun q => c0 (FA_det fa q.2), hf⟩⟩

/-! forward: what a town's text leaves behind, the reference -/
def ntO (S : tST) (m : xM) : Prop := m.1 314 25 = S.2.2.2 0 0 0 ∧ m.1 314 26 = nI S.1 ∧ m.1 314 27 = nI S.2.1 ∧ (∀ s i, s < S.1 → i < 4 → m.1 320 (4 * s + i) = S.2.2.2 1 s i) ∧ m.1 314 42 = 0 ∧ m.1 314 51 = 0 ∧ m.1 314 53 = 0 ∧ m.1 326 24 = nI (wlT (tD S) S.1) ∧ m.1 326 25 = S.2.2.2 0 0 1 ∧ m.1 326 26 = 0 ∧ m.1 326 27 = 0 ∧ (∀ j, j < 16 → m.1 326 j = 0) ∧ ∀ p, p < 4 → m.1 326 (16 + 2 * p) = (if p < S.2.1 then S.2.2.2 2 p 0 else 0) ∧ m.1 326 (17 + 2 * p) = (if p < S.2.1 then S.2.2.2 2 p 1 else 0)
def mtK (m m' : xM) : Prop := ∀ a i, (a = 314 ∧ ((25 ≤ i ∧ i ≤ 27) ∨ i = 34 ∨ i = 35 ∨ i = 42 ∨ i = 51 ∨ i = 53)) ∨ a = 320 ∨ a = 322 ∨ a = 326 ∨ (331 ≤ a ∧ a ≤ 333) → m'.1 a i = m.1 a i
def mtF (m m' : xM) : Prop := ∀ a i, (a = 314 ∧ (i = 34 ∨ i = 35)) ∨ (331 ≤ a ∧ a ≤ 333) → m'.1 a i = m.1 a i
set_option maxHeartbeats 4000000 in
theorem c_mtext0 {m : xM} {N : Nat} {u : Nat → Int32} (hI : gI tS tR m) (hj : jM m) (h1 : m.1 314 6 = nI N) (hN : N ≤ 240) (h2 : m.1 315 = u) (hb : ∀ i, byR (u i)) : fC 191 [.ref 314, .int 0] m (fun rv m' => (¬ ((0 : Int32) = 0 ∧ FA N (tt u) 0 (-1)) ∧ mtK m m') ∨ ((0 : Int32) = 0 ∧ ∃ S f, twR N (tt u) f tw0 0 (.inl S) ∧ ntO S m' ∧ mtF m m')) := by
  refine fC_of (by decide) (fun d n P H => ?_)
  have c0 : (0 : Int32).toNatClampNeg = 0 := by decide
  have c1 : (1 : Int32).toNatClampNeg = 1 := by decide
  have c24 : (24 : Int32).toNatClampNeg = 24 := by decide
  have c25 : (25 : Int32).toNatClampNeg = 25 := by decide
  replace H := f_aload_n H k191_0 rfl
  replace H := f_iconst H k191_1 (v := 0) (by decide)
  replace H := f_put_i H k191_2 (ci := 12) (f := 0) (by decide +kernel) (by decide)
  have hI1 : gI tS tR (mI m 314 0 0) := gI_m2 hI (by decide +kernel)
  have hj1 : jM (mI m 314 0 0) := jM_c (by decide) hj
  have p1 : ∀ a i, ¬ (a = 314 ∧ i = 0) → (mI m 314 0 0).1 a i = m.1 a i := fun a i h => mI_ne h
  generalize mI m 314 0 0 = m1 at *
  have hr : rS m1 := hI1.2
  replace H := f_iload_n H k191_5 rfl
  replace H := f_i2l H k191_6
  replace H := f_lconst H k191_7 (v := 0) (by decide)
  replace H := f_ldc2 H k191_8 (v := 2) (by decide +kernel)
  obtain ⟨rv, m', ⟨ho, rfl⟩, h9_11⟩ := f_ins H k191_11 (by decide +kernel) (as := [.long _, .long _, .long _]) (r := []) (by rfl) (c_isInK (v := 0) (l := 0) (mo := 2) (by decide) (by decide))
  replace H := h9_11
  rcases ho with ⟨o1, o2, rfl⟩ | ⟨o1, rfl⟩
  case inr => exact absurd o1 (by decide)
  replace H := f_if_eq_f H k191_14 (by decide)
  replace H := f_iload_n H k191_17 rfl
  replace H := f_iconst H k191_18 (v := 1) (by decide)
  replace H := f_icmp_ne_t H k191_19 (by decide) (t := 30) (by decide)
  replace H := f_iload_n H k191_30 rfl
  replace H := f_iconst H k191_31 (v := 2) (by decide)
  replace H := f_icmp_ne_t H k191_32 (by decide) (t := 43) (by decide)
  replace H := f_aload_n H k191_43 rfl
  replace H := f_iload_n H k191_44 rfl
  obtain ⟨rv, m2, ⟨⟨v, rfl, fa, f0, f2⟩, hI2, fr, -⟩, h9_45⟩ := f_inv H k191_45 (by decide +kernel) (as := [.int _]) (b := 314) (r := []) (by rfl) (fC_two (c_mfault hr (by rw [p1 314 6 (by omega)]; exact h1) hN (by rw [← h2]; exact funext fun j => p1 315 j (by omega)) hb) (fC_vC ux8 hI1 hj1 ⟨aR_a 314, aI_a 0, trivial⟩ gF_nil))
  replace H := h9_45
  have h9 : ∀ q ∈ ux8c.2.2.2.2, (q.1 = 314 ∧ (q.2.2 ≤ 18 ∨ (28 ≤ q.2.1 ∧ q.2.2 ≤ 32))) ∨ q.1 = 319 ∨ q.1 = 321 ∨ q.1 = 323 ∨ q.1 = 324 ∨ q.1 = 325 := by decide
  have hf : ∀ a i, (a = 314 ∧ ((18 ≤ i ∧ i < 28) ∨ 32 ≤ i)) ∨ a = 320 ∨ a = 322 ∨ a = 326 ∨ (331 ≤ a ∧ a ≤ 333) → m2.1 a i = m.1 a i := fun a i h => by
    rw [fr a i (wm_f (fun q hq z => by have := h9 q hq; omega))]
    exact p1 a i (by omega)
  have hr : rS m2 := hI2.2
  replace H := f_iconst H k191_48 (v := -1) (by decide)
  have Hbr := f_icmp_eq H k191_49 (t := 54) (by decide)
  clear H
  rcases Hbr with ⟨k0, H⟩ | ⟨k0, H⟩
  · rw [k0] at fa
    have f0 := fun q => f0 q k0
    obtain ⟨S, f, x1, x2, -⟩ := f0 rfl
    have hok := (twR_ok f tw0 0 S tw0_ok x1).1
    obtain ⟨y1, y2, y3, y4, y5, y6, y7, y8⟩ := x2
    replace H := f_aload_n H k191_54 rfl
    replace H := f_gi H k191_55 (ci := 12) (f := 6) (by decide +kernel) (by decide)
    generalize m2.1 314 6 = l2 at *
    replace H := f_istore_n H k191_58 (l2 := [(2, .int l2), (0, .ref 314), (1, .int 0)]) rfl
    replace H := f_aload_n H k191_59 rfl
    replace H := f_iconst H k191_60 (v := 0) (by decide)
    replace H := f_put_i H k191_61 (ci := 12) (f := 6) (by decide +kernel) (by decide)
    replace H := f_iload_n H k191_64 rfl
    replace H := f_iconst H k191_65 (v := 1) (by decide)
    replace H := f_icmp_ne_t H k191_66 (by decide) (t := 130) (by decide)
    replace H := f_iload_n H k191_130 rfl
    replace H := f_iconst H k191_131 (v := 2) (by decide)
    replace H := f_icmp_ne_t H k191_132 (by decide) (t := 204) (by decide)
    have G : ∀ a i, ¬ (a = 314 ∧ i = 6) → (mI m2 314 6 0).1 a i = m2.1 a i := fun a i h => mI_ne h
    have hr3 : rS (mI m2 314 6 0) := hr
    generalize mI m2 314 6 0 = m3 at *
    have hr := hr3
    replace H := f_aload_n H k191_204 rfl
    replace H := f_aload_n H k191_205 rfl
    replace H := f_gr H k191_206 (ci := 12) (f := 18) (x := 319) (by decide +kernel) (by decide) (hr 314 18 319 rfl)
    replace H := f_iconst H k191_209 (v := 0) (by decide)
    have Hob := f_iald H k191_210 (c := 2) (by decide)
    clear H
    obtain ⟨hb210, H⟩ := Hob
    replace H := f_put_i H k191_211 (ci := 12) (f := 25) (by decide +kernel) (by decide)
    replace H := f_aload_n H k191_214 rfl
    replace H := f_aload_n H k191_215 rfl
    replace H := f_gi H k191_216 (ci := 12) (f := 28) (by decide +kernel) (by decide)
    replace H := f_put_i H k191_219 (ci := 12) (f := 26) (by decide +kernel) (by decide)
    replace H := f_aload_n H k191_222 rfl
    replace H := f_aload_n H k191_223 rfl
    replace H := f_gi H k191_224 (ci := 12) (f := 29) (by decide +kernel) (by decide)
    replace H := f_put_i H k191_227 (ci := 12) (f := 27) (by decide +kernel) (by decide)
    replace H := f_iconst H k191_230 (v := 0) (by decide)
    replace H := f_istore_n H k191_231 (l2 := [(3, .int 0), (2, .int l2), (0, .ref 314), (1, .int 0)]) rfl
    rw [c0] at H
    obtain ⟨m4, em, H⟩ := f_mem H
    have hr4 : rS m4 := by rw [em]; exact hr
    have q25 : m4.1 314 25 = S.2.2.2 0 0 0 := by rw [em, mI_ne (by omega), mI_ne (by omega), mI_at, G _ _ (by omega)]; exact y4 0 (by omega)
    have q26 : m4.1 314 26 = nI S.1 := by rw [em, mI_ne (by omega), mI_at, mI_ne (by omega), G _ _ (by omega)]; exact y1
    have q27 : m4.1 314 27 = nI S.2.1 := by rw [em, mI_at, mI_ne (by omega), mI_ne (by omega), G _ _ (by omega)]; exact y2
    have F4 : ∀ a i, ¬ (a = 314 ∧ (i = 6 ∨ (25 ≤ i ∧ i ≤ 27))) → m4.1 a i = m2.1 a i := fun a i h => by rw [em, mI_ne (by omega), mI_ne (by omega), mI_ne (by omega), G _ _ (by omega)]
    clear em G
    have r321 : ∀ s i, s < S.1 → i < 4 → m4.1 321 (4 * s + i) = S.2.2.2 1 s i := fun s i hs hi => by rw [F4 _ _ (by omega)]; exact y5 s i hs hi
    have r323 : ∀ s i, s < S.2.1 → i < 2 → m4.1 323 (2 * s + i) = S.2.2.2 2 s i := fun s i hs hi => by rw [F4 _ _ (by omega)]; exact y6 s i hs hi
    have r319 : ∀ i, i < 2 → m4.1 319 i = S.2.2.2 0 0 i := fun i hi => by rw [F4 _ _ (by omega)]; exact y4 i hi
    -- the end
    have GE : ∀ n x m5, rS m5 → (∀ a i, ¬ (a = 320 ∨ a = 322 ∨ a = 326) → m5.1 a i = m4.1 a i) → (∀ j, j < 48 → m5.1 320 j = m4.1 321 j) → (∀ j, j < 208 → j ≠ 24 → m5.1 326 j = (if 16 ≤ j ∧ j < 16 + 2 * S.2.1 then m4.1 323 (j - 16) else 0)) → m5.1 326 24 = nI (wlT (tD S) S.1) → xF 191 (xw d) P n 375 [(3, .int x), (2, .int l2), (0, .ref 314), (1, .int 0)] [] m5 → ∃ rv m', P rv m' ∧ ((¬ ((0 : Int32) = 0 ∧ FA N (tt u) 0 (-1)) ∧ mtK m m') ∨ ((0 : Int32) = 0 ∧ ∃ S f, twR N (tt u) f tw0 0 (.inl S) ∧ ntO S m' ∧ mtF m m')) := by
      intro n x m5 hr e1 e2 e3 e4 H
      replace H := f_aload_n H k191_375 rfl
      replace H := f_gr H k191_376 (ci := 12) (f := 32) (x := 326) (by decide +kernel) (by decide) (hr 314 32 326 rfl)
      replace H := f_bipush H k191_379 (v := 25) (by decide)
      replace H := f_aload_n H k191_381 rfl
      replace H := f_gr H k191_382 (ci := 12) (f := 18) (x := 319) (by decide +kernel) (by decide) (hr 314 18 319 rfl)
      replace H := f_iconst H k191_385 (v := 1) (by decide)
      have Hob := f_iald H k191_386 (c := 2) (by decide)
      clear H
      obtain ⟨hb386, H⟩ := Hob
      have Hob := f_iast H k191_387 (c := 208) (by decide)
      clear H
      obtain ⟨hb387, H⟩ := Hob
      replace H := f_aload_n H k191_388 rfl
      replace H := f_iconst H k191_389 (v := 0) (by decide)
      replace H := f_put_i H k191_390 (ci := 12) (f := 51) (by decide +kernel) (by decide)
      replace H := f_aload_n H k191_393 rfl
      replace H := f_iconst H k191_394 (v := 0) (by decide)
      replace H := f_put_i H k191_395 (ci := 12) (f := 42) (by decide +kernel) (by decide)
      replace H := f_aload_n H k191_398 rfl
      replace H := f_iconst H k191_399 (v := 0) (by decide)
      replace H := f_put_b H k191_400 (ci := 12) (f := 53) (by decide +kernel) (by decide)
      replace H := f_aload_n H k191_403 rfl
      replace H := f_gi H k191_404 (ci := 12) (f := 26) (by decide +kernel) (by decide)
      replace H := f_iret H k191_407
      rw [c25, c1] at H
      have K : ∀ a i, ¬ (a = 326 ∧ i = 25) → ¬ (a = 314 ∧ (i = 51 ∨ i = 42 ∨ i = 53)) → (mI (mI (mI (mI m5 326 25 (m5.1 319 1)) 314 51 0) 314 42 0) 314 53 0).1 a i = m5.1 a i := fun a i h1 h2 => by rw [mI_ne (by omega), mI_ne (by omega), mI_ne (by omega), mI_ne h1]
      refine ⟨_, _, H, Or.inr ⟨rfl, S, f, x1, ⟨?_, ?_, ?_, fun s i hs hi => ?_, ?_, ?_, mI_at, ?_, ?_, ?_, ?_, fun j hj => ?_, fun p hp => ⟨?_, ?_⟩⟩, fun a i h => ?_⟩⟩
      · rw [K _ _ (by omega) (by omega), e1 _ _ (by omega)]; exact q25
      · rw [K _ _ (by omega) (by omega), e1 _ _ (by omega)]; exact q26
      · rw [K _ _ (by omega) (by omega), e1 _ _ (by omega)]; exact q27
      · rw [K _ _ (by omega) (by omega), e2 _ (by omega)]; exact r321 s i hs hi
      · rw [mI_ne (by omega), mI_at]
      · rw [mI_ne (by omega), mI_ne (by omega), mI_at]
      · rw [K _ _ (by omega) (by omega)]; exact e4
      · rw [mI_ne (by omega), mI_ne (by omega), mI_ne (by omega), mI_at, e1 _ _ (by omega)]; exact r319 1 (by omega)
      · rw [K _ _ (by omega) (by omega), e3 26 (by omega) (by omega), if_neg (by omega)]
      · rw [K _ _ (by omega) (by omega), e3 27 (by omega) (by omega), if_neg (by omega)]
      · rw [K _ _ (by omega) (by omega), e3 j (by omega) (by omega), if_neg (by omega)]
      · rw [K _ _ (by omega) (by omega), e3 _ (by omega) (by omega)]
        by_cases c : p < S.2.1
        · rw [if_pos (by omega), if_pos c, show 16 + 2 * p - 16 = 2 * p + 0 by omega]; exact r323 p 0 c (by omega)
        · rw [if_neg (by omega), if_neg c]
      · rw [K _ _ (by omega) (by omega), e3 _ (by omega) (by omega)]
        by_cases c : p < S.2.1
        · rw [if_pos (by omega), if_pos c, show 17 + 2 * p - 16 = 2 * p + 1 by omega]; exact r323 p 1 c (by omega)
        · rw [if_neg (by omega), if_neg c]
      · rw [K _ _ (by omega) (by omega), e1 _ _ (by omega), F4 _ _ (by omega), hf _ _ (by omega)]
    have lE : ∀ n e m5, e ≤ S.1 → rS m5 → (∀ a i, ¬ (a = 320 ∨ a = 322 ∨ a = 326) → m5.1 a i = m4.1 a i) → (∀ j, j < 48 → m5.1 320 j = m4.1 321 j) → (∀ j, j < 208 → j ≠ 24 → m5.1 326 j = (if 16 ≤ j ∧ j < 16 + 2 * S.2.1 then m4.1 323 (j - 16) else 0)) → m5.1 326 24 = nI (wlT (tD S) e) → xF 191 (xw d) P n 339 [(3, .int (nI e)), (2, .int l2), (0, .ref 314), (1, .int 0)] [] m5 → ∃ rv m', P rv m' ∧ ((¬ ((0 : Int32) = 0 ∧ FA N (tt u) 0 (-1)) ∧ mtK m m') ∨ ((0 : Int32) = 0 ∧ ∃ S f, twR N (tt u) f tw0 0 (.inl S) ∧ ntO S m' ∧ mtF m m')) := by
      intro n
      induction n with
      | zero => exact fun e m5 _ _ _ _ _ _ H => (xF_0 H).elim
      | succ n ih =>
        intro e m5 he hr e1 e2 e3 e4 H
        have eS : m5.1 314 26 = nI S.1 := by rw [e1 _ _ (by omega)]; exact q26
        replace H := f1_iload_n H k191_339 rfl
        replace H := f_aload_n H k191_340 rfl
        replace H := f_gi H k191_341 (ci := 12) (f := 26) (by decide +kernel) (by decide)
        rw [eS] at H
        have Hbr := f_icmp_ge H k191_344 (t := 375) (by decide)
        clear H
        rcases Hbr with ⟨z0, H⟩ | ⟨z0, H⟩
        · rw [nxle (by omega) (by omega)] at z0
          have ee : e = S.1 := by omega
          subst ee
          exact GE _ _ m5 hr e1 e2 e3 e4 H
        · rw [nxle (by omega) (by omega)] at z0
          have hd := tD_ok hok (s := e) (by omega)
          have hroad : m5.1 320 (4 * e + 3) = nI (tD S e) := by rw [e2 _ (by omega), r321 e 3 (by omega) (by omega)]; exact hd.1
          replace H := f_aload_n H k191_347 rfl
          replace H := f_gr H k191_348 (ci := 12) (f := 32) (x := 326) (by decide +kernel) (by decide) (hr 314 32 326 rfl)
          replace H := f_bipush H k191_351 (v := 24) (by decide)
          replace H := f_dup2 H k191_353
          have Hob := f_iald H k191_354 (c := 208) (by decide)
          clear H
          obtain ⟨hb354, H⟩ := Hob
          replace H := f_aload_n H k191_355 rfl
          replace H := f_gr H k191_356 (ci := 12) (f := 19) (x := 320) (by decide +kernel) (by decide) (hr 314 19 320 rfl)
          replace H := f_iconst H k191_359 (v := 4) (by decide)
          replace H := f_iload_n H k191_360 rfl
          replace H := f_imul H k191_361
          replace H := f_iconst H k191_362 (v := 3) (by decide)
          replace H := f_iadd H k191_363
          have Hob := f_iald H k191_364 (c := 48) (by decide)
          clear H
          obtain ⟨hb364, H⟩ := Hob
          replace H := f_iload_n H k191_365 rfl
          replace H := f_ishl H k191_366
          replace H := f_ior H k191_367
          have Hob := f_iast H k191_368 (c := 208) (by decide)
          clear H
          obtain ⟨hb368, H⟩ := Hob
          replace H := f_iinc H k191_369 rfl (l2 := [(3, .int (nI e + 1)), (2, .int l2), (0, .ref 314), (1, .int 0)]) rfl
          replace H := f_goto H k191_372 (t := 339) (by decide)
          rw [c24, e4, show (4 : Int32) = nI 4 from rfl, nI_mul, show (3 : Int32) = nI 3 from rfl, r_ad, nI_clamp (by omega), hroad, shl_b hd.2 (by omega), fa_or, nI_s] at H
          refine ih (e + 1) (mI m5 326 24 _) (by omega) hr (fun a i h => ?_) (fun j hj => ?_) (fun j hj hj2 => ?_) mI_at H
          · rw [mI_ne (by omega)]; exact e1 a i h
          · rw [mI_ne (by omega)]; exact e2 j hj
          · rw [mI_ne (by omega)]; exact e3 j hj hj2
    have lD : ∀ n k m5, k ≤ 2 * S.2.1 → rS m5 → (∀ a i, ¬ (a = 320 ∨ a = 322 ∨ a = 326) → m5.1 a i = m4.1 a i) → (∀ j, j < 48 → m5.1 320 j = m4.1 321 j) → (∀ j, j < 8 → m5.1 322 j = m4.1 323 j) → (∀ j, j < 208 → m5.1 326 j = (if 16 ≤ j ∧ j < 16 + k then m4.1 323 (j - 16) else 0)) → xF 191 (xw d) P n 306 [(3, .int (nI k)), (2, .int l2), (0, .ref 314), (1, .int 0)] [] m5 → ∃ rv m', P rv m' ∧ ((¬ ((0 : Int32) = 0 ∧ FA N (tt u) 0 (-1)) ∧ mtK m m') ∨ ((0 : Int32) = 0 ∧ ∃ S f, twR N (tt u) f tw0 0 (.inl S) ∧ ntO S m' ∧ mtF m m')) := by
      intro n
      induction n with
      | zero => exact fun e m5 _ _ _ _ _ _ H => (xF_0 H).elim
      | succ n ih =>
        intro k m5 hk hr e1 e2 e3 e4 H
        have eW : m5.1 314 27 = nI S.2.1 := by rw [e1 _ _ (by omega)]; exact q27
        replace H := f1_iload_n H k191_306 rfl
        replace H := f_iconst H k191_307 (v := 2) (by decide)
        replace H := f_aload_n H k191_308 rfl
        replace H := f_gi H k191_309 (ci := 12) (f := 27) (by decide +kernel) (by decide)
        replace H := f_imul H k191_312
        rw [eW, show (2 : Int32) = nI 2 from rfl, nI_mul] at H
        have Hbr := f_icmp_ge H k191_313 (t := 337) (by decide)
        clear H
        rcases Hbr with ⟨z0, H⟩ | ⟨z0, H⟩
        · rw [nxle (by omega) (by omega)] at z0
          have ee : k = 2 * S.2.1 := by omega
          subst ee
          replace H := f_iconst H k191_337 (v := 0) (by decide)
          replace H := f_istore_n H k191_338 (l2 := [(3, .int 0), (2, .int l2), (0, .ref 314), (1, .int 0)]) rfl
          exact lE n 0 m5 (Nat.zero_le _) hr e1 e2 (fun j hj _ => e4 j hj) (by rw [e4 24 (by omega), if_neg (by omega)]; rfl) H
        · rw [nxle (by omega) (by omega)] at z0
          replace H := f_aload_n H k191_316 rfl
          replace H := f_gr H k191_317 (ci := 12) (f := 32) (x := 326) (by decide +kernel) (by decide) (hr 314 32 326 rfl)
          replace H := f_bipush H k191_320 (v := 16) (by decide)
          replace H := f_iload_n H k191_322 rfl
          replace H := f_iadd H k191_323
          replace H := f_aload_n H k191_324 rfl
          replace H := f_gr H k191_325 (ci := 12) (f := 21) (x := 322) (by decide +kernel) (by decide) (hr 314 21 322 rfl)
          replace H := f_iload_n H k191_328 rfl
          have Hob := f_iald H k191_329 (c := 8) (by decide)
          clear H
          obtain ⟨hb329, H⟩ := Hob
          have Hob := f_iast H k191_330 (c := 208) (by decide)
          clear H
          obtain ⟨hb330, H⟩ := Hob
          replace H := f_iinc H k191_331 rfl (l2 := [(3, .int (nI k + 1)), (2, .int l2), (0, .ref 314), (1, .int 0)]) rfl
          replace H := f_goto H k191_334 (t := 306) (by decide)
          rw [show (16 : Int32) = nI 16 from rfl, r_ad, nI_clamp (by omega), nI_clamp (by omega), nI_s, e3 k (by omega)] at H
          refine ih (k + 1) (mI m5 326 (16 + k) _) (by omega) hr (fun a i h => ?_) (fun j hj => ?_) (fun j hj => ?_) (fun j hj => ?_) H
          · rw [mI_ne (by omega)]; exact e1 a i h
          · rw [mI_ne (by omega)]; exact e2 j hj
          · rw [mI_ne (by omega)]; exact e3 j hj
          · by_cases c : j = 16 + k
            · subst c
              rw [mI_at, if_pos (by omega), show 16 + k - 16 = k by omega]
            · rw [mI_ne (by omega), e4 j hj]
              by_cases c2 : 16 ≤ j ∧ j < 16 + k
              · rw [if_pos c2, if_pos (by omega)]
              · rw [if_neg c2, if_neg (by omega)]
    have lC : ∀ n k m5, k ≤ 208 → rS m5 → (∀ a i, ¬ (a = 320 ∨ a = 322 ∨ a = 326) → m5.1 a i = m4.1 a i) → (∀ j, j < 48 → m5.1 320 j = m4.1 321 j) → (∀ j, j < 8 → m5.1 322 j = m4.1 323 j) → (∀ j, j < k → m5.1 326 j = 0) → xF 191 (xw d) P n 284 [(3, .int (nI k)), (2, .int l2), (0, .ref 314), (1, .int 0)] [] m5 → ∃ rv m', P rv m' ∧ ((¬ ((0 : Int32) = 0 ∧ FA N (tt u) 0 (-1)) ∧ mtK m m') ∨ ((0 : Int32) = 0 ∧ ∃ S f, twR N (tt u) f tw0 0 (.inl S) ∧ ntO S m' ∧ mtF m m')) := by
      intro n
      induction n with
      | zero => exact fun e m5 _ _ _ _ _ _ H => (xF_0 H).elim
      | succ n ih =>
        intro k m5 hk hr e1 e2 e3 e4 H
        replace H := f1_iload_n H k191_284 rfl
        replace H := f_sipush H k191_285 (v := 208) (by decide)
        rw [show (208 : Int32) = nI 208 from rfl] at H
        have Hbr := f_icmp_ge H k191_288 (t := 304) (by decide)
        clear H
        rcases Hbr with ⟨z0, H⟩ | ⟨z0, H⟩
        · rw [nxle (by omega) (by omega)] at z0
          replace H := f_iconst H k191_304 (v := 0) (by decide)
          replace H := f_istore_n H k191_305 (l2 := [(3, .int 0), (2, .int l2), (0, .ref 314), (1, .int 0)]) rfl
          exact lD n 0 m5 (Nat.zero_le _) hr e1 e2 e3 (fun j hj => by rw [if_neg (by omega)]; exact e4 j (by omega)) H
        · rw [nxle (by omega) (by omega)] at z0
          replace H := f_aload_n H k191_291 rfl
          replace H := f_gr H k191_292 (ci := 12) (f := 32) (x := 326) (by decide +kernel) (by decide) (hr 314 32 326 rfl)
          replace H := f_iload_n H k191_295 rfl
          replace H := f_iconst H k191_296 (v := 0) (by decide)
          have Hob := f_iast H k191_297 (c := 208) (by decide)
          clear H
          obtain ⟨hb297, H⟩ := Hob
          replace H := f_iinc H k191_298 rfl (l2 := [(3, .int (nI k + 1)), (2, .int l2), (0, .ref 314), (1, .int 0)]) rfl
          replace H := f_goto H k191_301 (t := 284) (by decide)
          rw [nI_clamp (by omega), nI_s] at H
          refine ih (k + 1) (mI m5 326 k _) (by omega) hr (fun a i h => ?_) (fun j hj => ?_) (fun j hj => ?_) (fun j hj => ?_) H
          · rw [mI_ne (by omega)]; exact e1 a i h
          · rw [mI_ne (by omega)]; exact e2 j hj
          · rw [mI_ne (by omega)]; exact e3 j hj
          · by_cases c : j = k
            · subst c
              rw [mI_at]
            · rw [mI_ne (by omega)]; exact e4 j (by omega)
    have lB : ∀ n k m5, k ≤ 8 → rS m5 → (∀ a i, ¬ (a = 320 ∨ a = 322 ∨ a = 326) → m5.1 a i = m4.1 a i) → (∀ j, j < 48 → m5.1 320 j = m4.1 321 j) → (∀ j, j < k → m5.1 322 j = m4.1 323 j) → xF 191 (xw d) P n 258 [(3, .int (nI k)), (2, .int l2), (0, .ref 314), (1, .int 0)] [] m5 → ∃ rv m', P rv m' ∧ ((¬ ((0 : Int32) = 0 ∧ FA N (tt u) 0 (-1)) ∧ mtK m m') ∨ ((0 : Int32) = 0 ∧ ∃ S f, twR N (tt u) f tw0 0 (.inl S) ∧ ntO S m' ∧ mtF m m')) := by
      intro n
      induction n with
      | zero => exact fun e m5 _ _ _ _ _ H => (xF_0 H).elim
      | succ n ih =>
        intro k m5 hk hr e1 e2 e3 H
        replace H := f1_iload_n H k191_258 rfl
        replace H := f_bipush H k191_259 (v := 8) (by decide)
        rw [show (8 : Int32) = nI 8 from rfl] at H
        have Hbr := f_icmp_ge H k191_261 (t := 282) (by decide)
        clear H
        rcases Hbr with ⟨z0, H⟩ | ⟨z0, H⟩
        · rw [nxle (by omega) (by omega)] at z0
          replace H := f_iconst H k191_282 (v := 0) (by decide)
          replace H := f_istore_n H k191_283 (l2 := [(3, .int 0), (2, .int l2), (0, .ref 314), (1, .int 0)]) rfl
          exact lC n 0 m5 (Nat.zero_le _) hr e1 e2 (fun j hj => e3 j (by omega)) (fun j hj => absurd hj (Nat.not_lt_zero _)) H
        · rw [nxle (by omega) (by omega)] at z0
          replace H := f_aload_n H k191_264 rfl
          replace H := f_gr H k191_265 (ci := 12) (f := 21) (x := 322) (by decide +kernel) (by decide) (hr 314 21 322 rfl)
          replace H := f_iload_n H k191_268 rfl
          replace H := f_aload_n H k191_269 rfl
          replace H := f_gr H k191_270 (ci := 12) (f := 22) (x := 323) (by decide +kernel) (by decide) (hr 314 22 323 rfl)
          replace H := f_iload_n H k191_273 rfl
          have Hob := f_iald H k191_274 (c := 8) (by decide)
          clear H
          obtain ⟨hb274, H⟩ := Hob
          have Hob := f_iast H k191_275 (c := 8) (by decide)
          clear H
          obtain ⟨hb275, H⟩ := Hob
          replace H := f_iinc H k191_276 rfl (l2 := [(3, .int (nI k + 1)), (2, .int l2), (0, .ref 314), (1, .int 0)]) rfl
          replace H := f_goto H k191_279 (t := 258) (by decide)
          rw [nI_clamp (by omega), nI_s, e1 323 k (by omega)] at H
          refine ih (k + 1) (mI m5 322 k _) (by omega) hr (fun a i h => ?_) (fun j hj => ?_) (fun j hj => ?_) H
          · rw [mI_ne (by omega)]; exact e1 a i h
          · rw [mI_ne (by omega)]; exact e2 j hj
          · by_cases c : j = k
            · subst c
              rw [mI_at]
            · rw [mI_ne (by omega)]; exact e3 j (by omega)
    have lA : ∀ n k m5, k ≤ 48 → rS m5 → (∀ a i, ¬ (a = 320 ∨ a = 322 ∨ a = 326) → m5.1 a i = m4.1 a i) → (∀ j, j < k → m5.1 320 j = m4.1 321 j) → xF 191 (xw d) P n 232 [(3, .int (nI k)), (2, .int l2), (0, .ref 314), (1, .int 0)] [] m5 → ∃ rv m', P rv m' ∧ ((¬ ((0 : Int32) = 0 ∧ FA N (tt u) 0 (-1)) ∧ mtK m m') ∨ ((0 : Int32) = 0 ∧ ∃ S f, twR N (tt u) f tw0 0 (.inl S) ∧ ntO S m' ∧ mtF m m')) := by
      intro n
      induction n with
      | zero => exact fun e m5 _ _ _ _ H => (xF_0 H).elim
      | succ n ih =>
        intro k m5 hk hr e1 e2 H
        replace H := f1_iload_n H k191_232 rfl
        replace H := f_bipush H k191_233 (v := 48) (by decide)
        rw [show (48 : Int32) = nI 48 from rfl] at H
        have Hbr := f_icmp_ge H k191_235 (t := 256) (by decide)
        clear H
        rcases Hbr with ⟨z0, H⟩ | ⟨z0, H⟩
        · rw [nxle (by omega) (by omega)] at z0
          replace H := f_iconst H k191_256 (v := 0) (by decide)
          replace H := f_istore_n H k191_257 (l2 := [(3, .int 0), (2, .int l2), (0, .ref 314), (1, .int 0)]) rfl
          exact lB n 0 m5 (Nat.zero_le _) hr e1 (fun j hj => e2 j (by omega)) (fun j hj => absurd hj (Nat.not_lt_zero _)) H
        · rw [nxle (by omega) (by omega)] at z0
          replace H := f_aload_n H k191_238 rfl
          replace H := f_gr H k191_239 (ci := 12) (f := 19) (x := 320) (by decide +kernel) (by decide) (hr 314 19 320 rfl)
          replace H := f_iload_n H k191_242 rfl
          replace H := f_aload_n H k191_243 rfl
          replace H := f_gr H k191_244 (ci := 12) (f := 20) (x := 321) (by decide +kernel) (by decide) (hr 314 20 321 rfl)
          replace H := f_iload_n H k191_247 rfl
          have Hob := f_iald H k191_248 (c := 48) (by decide)
          clear H
          obtain ⟨hb248, H⟩ := Hob
          have Hob := f_iast H k191_249 (c := 48) (by decide)
          clear H
          obtain ⟨hb249, H⟩ := Hob
          replace H := f_iinc H k191_250 rfl (l2 := [(3, .int (nI k + 1)), (2, .int l2), (0, .ref 314), (1, .int 0)]) rfl
          replace H := f_goto H k191_253 (t := 232) (by decide)
          rw [nI_clamp (by omega), nI_s, e1 321 k (by omega)] at H
          refine ih (k + 1) (mI m5 320 k _) (by omega) hr (fun a i h => ?_) (fun j hj => ?_) H
          · rw [mI_ne (by omega)]; exact e1 a i h
          · by_cases c : j = k
            · subst c
              rw [mI_at]
            · rw [mI_ne (by omega)]; exact e2 j (by omega)
    exact lA n 0 m4 (Nat.zero_le _) hr4 (fun _ _ _ => rfl) (fun j hj => absurd hj (Nat.not_lt_zero _)) H
  · replace H := f_iconst H k191_52 (v := -1) (by decide)
    replace H := f_iret H k191_53
    exact ⟨_, _, H, Or.inl ⟨fun q => k0 (FA_det fa q.2), fun a i h => hf a i (by omega)⟩⟩
theorem c_mtextD {m : xM} {N : Nat} {u : Nat → Int32} {z : Int32} (hI : gI tS tR m) (hj : jM m) (h1 : m.1 314 6 = nI N) (hN : N ≤ 240) (h2 : m.1 315 = u) (hb : ∀ i, byR (u i)) : fC 191 [.ref 314, .int z] m (fun rv m' => (¬ (z = 0 ∧ FA N (tt u) z (-1)) ∧ mtK m m') ∨ (z = 0 ∧ ∃ S f, twR N (tt u) f tw0 0 (.inl S) ∧ ntO S m' ∧ mtF m m')) := by
  by_cases c : z = 0
  · subst c
    exact c_mtext0 hI hj h1 hN h2 hb
  · have hn : ¬ (z = 0 ∧ FA N (tt u) z (-1)) := fun q => c q.1
    have go : ∀ (cc : aCt), cc.1 = 191 → (∀ q ∈ cc.2.2.2.2, (q.1 = 314 ∧ ((q.2.2 ≤ 18) ∨ (q.2.1 = 30 ∧ q.2.2 = 31))) ∨ q.1 = 316 ∨ q.1 = 317 ∨ q.1 = 324 ∨ q.1 = 325) → fC cc.1 [.ref 314, .int z] m (cPo tS tR cc m [.ref 314, .int z]) → fC 191 [.ref 314, .int z] m (fun rv m' => (¬ (z = 0 ∧ FA N (tt u) z (-1)) ∧ mtK m m') ∨ (z = 0 ∧ ∃ S f, twR N (tt u) f tw0 0 (.inl S) ∧ ntO S m' ∧ mtF m m')) := by
      intro cc e1 e2 e3
      rw [e1] at e3
      intro d P h
      obtain ⟨rv, m', g1, g2⟩ := e3 d P h
      exact ⟨rv, m', g1, Or.inl ⟨hn, fun a i h => g2.2.1 a i (wm_f (fun q hq y => by have := e2 q hq; omega))⟩⟩
    have ai : ∀ lo hi : Int, lo ≤ z.toInt → z.toInt ≤ hi → aH (fun _ => 0) (.int z) (aI lo hi) := fun lo hi g1 g2 => Or.inr (Or.inl ⟨rfl, z, rfl, ⟨g1, g2⟩, trivial⟩)
    have zr := i32_rng z
    have z0 : z.toInt ≠ 0 := fun q => c (Int32.toInt_inj.mp (by rw [q]; decide))
    by_cases k1 : z.toInt = 1
    · exact go ux3c rfl (by decide) (fC_vC ux3 hI hj ⟨aR_a 314, ai 1 1 (by omega) (by omega), trivial⟩ gF_nil)
    · by_cases k2 : z.toInt = 2
      · exact go ux5c rfl (by decide) (fC_vC ux5 hI hj ⟨aR_a 314, ai 2 2 (by omega) (by omega), trivial⟩ gF_nil)
      · by_cases k3 : z.toInt < 0
        · exact go ux6c rfl (by decide) (fC_vC ux6 hI hj ⟨aR_a 314, ai iLo (-1) zr.1 (by omega), trivial⟩ gF_nil)
        · exact go ux7c rfl (by decide) (fC_vC ux7 hI hj ⟨aR_a 314, ai 3 iHi (by omega) zr.2, trivial⟩ gF_nil)
theorem k62_0 : lkc 0 (kcode 62) = some (.aload_n 0) := by decide +kernel
theorem k62_1 : lkc 1 (kcode 62) = some (.getfield 25) := by decide +kernel
theorem k62_4 : lkc 4 (kcode 62) = some (.bipush 10) := by decide +kernel
theorem k62_6 : lkc 6 (kcode 62) = some (.if_icmp .lt 5) := by decide +kernel
theorem k62_9 : lkc 9 (kcode 62) = some (.iconst (-1)) := by decide +kernel
theorem k62_10 : lkc 10 (kcode 62) = some (.ireturn) := by decide +kernel
theorem k62_11 : lkc 11 (kcode 62) = some (.aload_n 0) := by decide +kernel
theorem k62_12 : lkc 12 (kcode 62) = some (.getfield 9) := by decide +kernel
theorem k62_15 : lkc 15 (kcode 62) = some (.aload_n 0) := by decide +kernel
theorem k62_16 : lkc 16 (kcode 62) = some (.getfield 25) := by decide +kernel
theorem k62_19 : lkc 19 (kcode 62) = some (.iload_n 1) := by decide +kernel
theorem k62_20 : lkc 20 (kcode 62) = some (.iastore) := by decide +kernel
theorem k62_21 : lkc 21 (kcode 62) = some (.aload_n 0) := by decide +kernel
theorem k62_22 : lkc 22 (kcode 62) = some (.getfield 15) := by decide +kernel
theorem k62_25 : lkc 25 (kcode 62) = some (.aload_n 0) := by decide +kernel
theorem k62_26 : lkc 26 (kcode 62) = some (.getfield 25) := by decide +kernel
theorem k62_29 : lkc 29 (kcode 62) = some (.iload_n 2) := by decide +kernel
theorem k62_30 : lkc 30 (kcode 62) = some (.bastore) := by decide +kernel
theorem k62_31 : lkc 31 (kcode 62) = some (.aload_n 0) := by decide +kernel
theorem k62_32 : lkc 32 (kcode 62) = some (.dup) := by decide +kernel
theorem k62_33 : lkc 33 (kcode 62) = some (.getfield 25) := by decide +kernel
theorem k62_36 : lkc 36 (kcode 62) = some (.iconst 1) := by decide +kernel
theorem k62_37 : lkc 37 (kcode 62) = some (.iadd) := by decide +kernel
theorem k62_38 : lkc 38 (kcode 62) = some (.putfield 25) := by decide +kernel
theorem k62_41 : lkc 41 (kcode 62) = some (.aload_n 0) := by decide +kernel
theorem k62_42 : lkc 42 (kcode 62) = some (.getfield 25) := by decide +kernel
theorem k62_45 : lkc 45 (kcode 62) = some (.ireturn) := by decide +kernel
theorem k108_0 : lkc 0 (kcode 108) = some (.iload_n 1) := by decide +kernel
theorem k108_1 : lkc 1 (kcode 108) = some (.ifCond .lt 18) := by decide +kernel
theorem k108_4 : lkc 4 (kcode 108) = some (.iload_n 1) := by decide +kernel
theorem k108_5 : lkc 5 (kcode 108) = some (.aload_n 0) := by decide +kernel
theorem k108_6 : lkc 6 (kcode 108) = some (.getfield 19) := by decide +kernel
theorem k108_9 : lkc 9 (kcode 108) = some (.getfield 216) := by decide +kernel
theorem k108_12 : lkc 12 (kcode 108) = some (.if_icmp .ge 7) := by decide +kernel
theorem k108_15 : lkc 15 (kcode 108) = some (.iconst 1) := by decide +kernel
theorem k108_16 : lkc 16 (kcode 108) = some (.goto 4) := by decide +kernel
theorem k108_19 : lkc 19 (kcode 108) = some (.iconst 0) := by decide +kernel
theorem k108_20 : lkc 20 (kcode 108) = some (.ireturn) := by decide +kernel
theorem k136_0 : lkc 0 (kcode 136) = some (.aload_n 0) := by decide +kernel
theorem k136_1 : lkc 1 (kcode 136) = some (.iload_n 1) := by decide +kernel
theorem k136_2 : lkc 2 (kcode 136) = some (.invokevirtual 159) := by decide +kernel
theorem k136_5 : lkc 5 (kcode 136) = some (.ifCond .ne 5) := by decide +kernel
theorem k136_8 : lkc 8 (kcode 136) = some (.iconst (-1)) := by decide +kernel
theorem k136_9 : lkc 9 (kcode 136) = some (.ireturn) := by decide +kernel
theorem k136_10 : lkc 10 (kcode 136) = some (.aload_n 0) := by decide +kernel
theorem k136_11 : lkc 11 (kcode 136) = some (.getfield 68) := by decide +kernel
theorem k136_14 : lkc 14 (kcode 136) = some (.iload_n 1) := by decide +kernel
theorem k136_15 : lkc 15 (kcode 136) = some (.iload_n 2) := by decide +kernel
theorem k136_16 : lkc 16 (kcode 136) = some (.invokevirtual 334) := by decide +kernel
theorem k136_19 : lkc 19 (kcode 136) = some (.ireturn) := by decide +kernel
theorem k193_0 : lkc 0 (kcode 193) = some (.iload_n 1) := by decide +kernel
theorem k193_1 : lkc 1 (kcode 193) = some (.ifCond .lt 15) := by decide +kernel
theorem k193_4 : lkc 4 (kcode 193) = some (.iload_n 1) := by decide +kernel
theorem k193_5 : lkc 5 (kcode 193) = some (.aload_n 0) := by decide +kernel
theorem k193_6 : lkc 6 (kcode 193) = some (.getfield 280) := by decide +kernel
theorem k193_9 : lkc 9 (kcode 193) = some (.if_icmp .ge 7) := by decide +kernel
theorem k193_12 : lkc 12 (kcode 193) = some (.iconst 1) := by decide +kernel
theorem k193_13 : lkc 13 (kcode 193) = some (.goto 4) := by decide +kernel
theorem k193_16 : lkc 16 (kcode 193) = some (.iconst 0) := by decide +kernel
theorem k193_17 : lkc 17 (kcode 193) = some (.ireturn) := by decide +kernel
theorem k233_0 : lkc 0 (kcode 233) = some (.aload_n 0) := by decide +kernel
theorem k233_1 : lkc 1 (kcode 233) = some (.iconst 0) := by decide +kernel
theorem k233_2 : lkc 2 (kcode 233) = some (.putfield 90) := by decide +kernel
theorem k233_5 : lkc 5 (kcode 233) = some (.aload_n 0) := by decide +kernel
theorem k233_6 : lkc 6 (kcode 233) = some (.iload_n 1) := by decide +kernel
theorem k233_7 : lkc 7 (kcode 233) = some (.invokevirtual 354) := by decide +kernel
theorem k233_10 : lkc 10 (kcode 233) = some (.ifCond .eq 12) := by decide +kernel
theorem k233_13 : lkc 13 (kcode 233) = some (.aload_n 0) := by decide +kernel
theorem k233_14 : lkc 14 (kcode 233) = some (.getfield 289) := by decide +kernel
theorem k233_17 : lkc 17 (kcode 233) = some (.bipush 10) := by decide +kernel
theorem k233_19 : lkc 19 (kcode 233) = some (.if_icmp .ne 5) := by decide +kernel
theorem k233_22 : lkc 22 (kcode 233) = some (.iconst (-1)) := by decide +kernel
theorem k233_23 : lkc 23 (kcode 233) = some (.ireturn) := by decide +kernel
theorem k233_24 : lkc 24 (kcode 233) = some (.aload_n 0) := by decide +kernel
theorem k233_25 : lkc 25 (kcode 233) = some (.getfield 84) := by decide +kernel
theorem k233_28 : lkc 28 (kcode 233) = some (.iconst 2) := by decide +kernel
theorem k233_29 : lkc 29 (kcode 233) = some (.aload_n 0) := by decide +kernel
theorem k233_30 : lkc 30 (kcode 233) = some (.getfield 289) := by decide +kernel
theorem k233_33 : lkc 33 (kcode 233) = some (.imul) := by decide +kernel
theorem k233_34 : lkc 34 (kcode 233) = some (.iload_n 1) := by decide +kernel
theorem k233_35 : lkc 35 (kcode 233) = some (.iastore) := by decide +kernel
theorem k233_36 : lkc 36 (kcode 233) = some (.aload_n 0) := by decide +kernel
theorem k233_37 : lkc 37 (kcode 233) = some (.getfield 84) := by decide +kernel
theorem k233_40 : lkc 40 (kcode 233) = some (.iconst 2) := by decide +kernel
theorem k233_41 : lkc 41 (kcode 233) = some (.aload_n 0) := by decide +kernel
theorem k233_42 : lkc 42 (kcode 233) = some (.getfield 289) := by decide +kernel
theorem k233_45 : lkc 45 (kcode 233) = some (.imul) := by decide +kernel
theorem k233_46 : lkc 46 (kcode 233) = some (.iconst 1) := by decide +kernel
theorem k233_47 : lkc 47 (kcode 233) = some (.iadd) := by decide +kernel
theorem k233_48 : lkc 48 (kcode 233) = some (.iload_n 2) := by decide +kernel
theorem k233_49 : lkc 49 (kcode 233) = some (.ifCond .eq 7) := by decide +kernel
theorem k233_52 : lkc 52 (kcode 233) = some (.iconst 1) := by decide +kernel
theorem k233_53 : lkc 53 (kcode 233) = some (.goto 4) := by decide +kernel
theorem k233_56 : lkc 56 (kcode 233) = some (.iconst 0) := by decide +kernel
theorem k233_57 : lkc 57 (kcode 233) = some (.iastore) := by decide +kernel
theorem k233_58 : lkc 58 (kcode 233) = some (.aload_n 0) := by decide +kernel
theorem k233_59 : lkc 59 (kcode 233) = some (.dup) := by decide +kernel
theorem k233_60 : lkc 60 (kcode 233) = some (.getfield 289) := by decide +kernel
theorem k233_63 : lkc 63 (kcode 233) = some (.iconst 1) := by decide +kernel
theorem k233_64 : lkc 64 (kcode 233) = some (.iadd) := by decide +kernel
theorem k233_65 : lkc 65 (kcode 233) = some (.putfield 289) := by decide +kernel
theorem k233_68 : lkc 68 (kcode 233) = some (.aload_n 0) := by decide +kernel
theorem k233_69 : lkc 69 (kcode 233) = some (.getfield 289) := by decide +kernel
theorem k233_72 : lkc 72 (kcode 233) = some (.ireturn) := by decide +kernel
/-! forward: seen, both sides -/
theorem c_isCorner {m : xM} {C z : Int32} (hr : rS m) (hC : m.1 3 0 = C) : fC 108 [.ref 0, .int z] m (fun rv m' => (((¬ z < 0 ∧ z < C) ∧ rv = some (.int 1)) ∨ (¬ (¬ z < 0 ∧ z < C) ∧ rv = some (.int 0))) ∧ m = m') := by
  refine fC_of (by decide) (fun d n P H => ?_)
  have neg : ∀ n, ¬ (¬ z < 0 ∧ z < C) → xF 108 (xw d) P n 19 [(0, .ref 0), (1, .int z)] [] m → ∃ rv m', P rv m' ∧ (((¬ z < 0 ∧ z < C) ∧ rv = some (.int 1)) ∨ (¬ (¬ z < 0 ∧ z < C) ∧ rv = some (.int 0))) ∧ m = m' := by
    intro n h H
    replace H := f_iconst H k108_19 (v := 0) (by decide)
    replace H := f_iret H k108_20
    exact ⟨_, _, H, Or.inr ⟨h, rfl⟩, rfl⟩
  replace H := f_iload_n H k108_0 rfl
  have Hbr := f_if_lt H k108_1 (t := 19) (by decide)
  clear H
  rcases Hbr with ⟨c0, H⟩ | ⟨c0, H⟩
  · exact neg _ (fun q => q.1 c0) H
  · replace H := f_iload_n H k108_4 rfl
    replace H := f_aload_n H k108_5 rfl
    replace H := f_gr H k108_6 (ci := 11) (f := 1) (x := 3) (by decide +kernel) (by decide) (hr 0 1 3 rfl)
    replace H := f_gi H k108_9 (ci := 5) (f := 0) (by decide +kernel) (by decide)
    rw [hC] at H
    have Hbr := f_icmp_ge H k108_12 (t := 19) (by decide)
    clear H
    rcases Hbr with ⟨c1, H⟩ | ⟨c1, H⟩
    · exact neg _ (fun q => by rw [Int32.le_iff_toInt_le] at c1; have := Int32.lt_iff_toInt_lt.mp q.2; omega) H
    · replace H := f_iconst H k108_15 (v := 1) (by decide)
      replace H := f_goto H k108_16 (t := 20) (by decide)
      replace H := f_iret H k108_20
      refine ⟨_, _, H, Or.inl ⟨⟨c0, ?_⟩, rfl⟩, rfl⟩
      rw [Int32.le_iff_toInt_le] at c1
      rw [Int32.lt_iff_toInt_lt]
      omega
theorem c_misCorner {m : xM} {C z : Int32} (hC : m.1 314 25 = C) : fC 193 [.ref 314, .int z] m (fun rv m' => (((¬ z < 0 ∧ z < C) ∧ rv = some (.int 1)) ∨ (¬ (¬ z < 0 ∧ z < C) ∧ rv = some (.int 0))) ∧ m = m') := by
  refine fC_of (by decide) (fun d n P H => ?_)
  have neg : ∀ n, ¬ (¬ z < 0 ∧ z < C) → xF 193 (xw d) P n 16 [(0, .ref 314), (1, .int z)] [] m → ∃ rv m', P rv m' ∧ (((¬ z < 0 ∧ z < C) ∧ rv = some (.int 1)) ∨ (¬ (¬ z < 0 ∧ z < C) ∧ rv = some (.int 0))) ∧ m = m' := by
    intro n h H
    replace H := f_iconst H k193_16 (v := 0) (by decide)
    replace H := f_iret H k193_17
    exact ⟨_, _, H, Or.inr ⟨h, rfl⟩, rfl⟩
  replace H := f_iload_n H k193_0 rfl
  have Hbr := f_if_lt H k193_1 (t := 16) (by decide)
  clear H
  rcases Hbr with ⟨c0, H⟩ | ⟨c0, H⟩
  · exact neg _ (fun q => q.1 c0) H
  · replace H := f_iload_n H k193_4 rfl
    replace H := f_aload_n H k193_5 rfl
    replace H := f_gi H k193_6 (ci := 12) (f := 25) (by decide +kernel) (by decide)
    rw [hC] at H
    have Hbr := f_icmp_ge H k193_9 (t := 16) (by decide)
    clear H
    rcases Hbr with ⟨c1, H⟩ | ⟨c1, H⟩
    · exact neg _ (fun q => by rw [Int32.le_iff_toInt_le] at c1; have := Int32.lt_iff_toInt_lt.mp q.2; omega) H
    · replace H := f_iconst H k193_12 (v := 1) (by decide)
      replace H := f_goto H k193_13 (t := 17) (by decide)
      replace H := f_iret H k193_17
      refine ⟨_, _, H, Or.inl ⟨⟨c0, ?_⟩, rfl⟩, rfl⟩
      rw [Int32.le_iff_toInt_le] at c1
      rw [Int32.lt_iff_toInt_lt]
      omega
def snO (C z : Int32) (k : Nat) (rv : Option Value) (k2 : Int32) : Prop := (((¬ (¬ z < 0 ∧ z < C)) ∨ k = 10) ∧ rv = some (.int (-1)) ∧ k2 = nI k) ∨ (((¬ z < 0 ∧ z < C) ∧ k < 10) ∧ rv = some (.int (nI (k + 1))) ∧ k2 = nI (k + 1))
theorem snO_det {C z : Int32} {k : Nat} {rv rv2 : Option Value} {k2 k3 : Int32} (h : snO C z k rv k2) (g : snO C z k rv2 k3) : rv = rv2 ∧ k2 = k3 := by
  rcases h with ⟨h1, h2, h3⟩ | ⟨h1, h2, h3⟩ <;> rcases g with ⟨g1, g2, g3⟩ | ⟨g1, g2, g3⟩
  · rw [h2, g2, h3, g3]; exact ⟨rfl, rfl⟩
  · rcases h1 with h1 | h1
    · exact absurd g1.1 h1
    · omega
  · rcases g1 with g1 | g1
    · exact absurd h1.1 g1
    · omega
  · rw [h2, g2, h3, g3]; exact ⟨rfl, rfl⟩
theorem c_sadd {m : xM} {k : Nat} {z y : Int32} (hr : rS m) (hk : m.1 84 4 = nI k) (hk10 : k ≤ 10) : fC 62 [.ref 84, .int z, .int y] m (fun rv m' => (k = 10 ∧ rv = some (.int (-1)) ∧ m'.1 84 4 = nI k) ∨ (k < 10 ∧ rv = some (.int (nI (k + 1))) ∧ m'.1 84 4 = nI (k + 1))) := by
  refine fC_of (by decide) (fun d n P H => ?_)
  replace H := f_aload_n H k62_0 rfl
  replace H := f_gi H k62_1 (ci := 7) (f := 4) (by decide +kernel) (by decide)
  replace H := f_bipush H k62_4 (v := 10) (by decide)
  rw [hk, show (10 : Int32) = nI 10 from rfl] at H
  have Hbr := f_icmp_lt H k62_6 (t := 11) (by decide)
  clear H
  rcases Hbr with ⟨c, H⟩ | ⟨c, H⟩
  · rw [nxlt (by omega) (by omega)] at c
    replace H := f_aload_n H k62_11 rfl
    replace H := f_gr H k62_12 (ci := 7) (f := 0) (x := 85) (by decide +kernel) (by decide) (hr 84 0 85 rfl)
    replace H := f_aload_n H k62_15 rfl
    replace H := f_gi H k62_16 (ci := 7) (f := 4) (by decide +kernel) (by decide)
    replace H := f_iload_n H k62_19 rfl
    have Hob := f_iast H k62_20 (c := 10) (by decide)
    clear H
    obtain ⟨hb20, H⟩ := Hob
    replace H := f_aload_n H k62_21 rfl
    replace H := f_gr H k62_22 (ci := 7) (f := 1) (x := 86) (by decide +kernel) (by decide) (hr 84 1 86 rfl)
    replace H := f_aload_n H k62_25 rfl
    replace H := f_gi H k62_26 (ci := 7) (f := 4) (by decide +kernel) (by decide)
    replace H := f_iload_n H k62_29 rfl
    have Hob := f_bast2 H k62_30 (c := 10) (by decide)
    clear H
    obtain ⟨hb30, H⟩ := Hob
    replace H := f_aload_n H k62_31 rfl
    replace H := f_dup H k62_32
    replace H := f_gi H k62_33 (ci := 7) (f := 4) (by decide +kernel) (by decide)
    replace H := f_iconst H k62_36 (v := 1) (by decide)
    replace H := f_iadd H k62_37
    replace H := f_put_i H k62_38 (ci := 7) (f := 4) (by decide +kernel) (by decide)
    replace H := f_aload_n H k62_41 rfl
    replace H := f_gi H k62_42 (ci := 7) (f := 4) (by decide +kernel) (by decide)
    rw [mI_at, mI_ne (by omega), mI_ne (by omega), hk, nI_s] at H
    replace H := f_iret H k62_45
    refine ⟨_, _, H, Or.inr ⟨c, rfl, ?_⟩⟩
    rw [mI_at]
  · rw [nxlt (by omega) (by omega)] at c
    replace H := f_iconst H k62_9 (v := -1) (by decide)
    replace H := f_iret H k62_10
    exact ⟨_, _, H, Or.inl ⟨by omega, rfl, hk⟩⟩
theorem c_seen {m : xM} {C : Int32} {k : Nat} {z y : Int32} (hr : rS m) (hC : m.1 3 0 = C) (hk : m.1 84 4 = nI k) (hk10 : k ≤ 10) : fC 136 [.ref 0, .int z, .int y] m (fun rv m' => snO C z k rv (m'.1 84 4)) := by
  refine fC_of (by decide) (fun d n P H => ?_)
  replace H := f_aload_n H k136_0 rfl
  replace H := f_iload_n H k136_1 rfl
  obtain ⟨rv, m2, ⟨ho, e3⟩, h9_2⟩ := f_inv H k136_2 (by decide +kernel) (as := [.int _]) (b := 0) (r := []) (by rfl) (c_isCorner hr hC)
  replace H := h9_2
  rw [← e3] at H
  clear e3
  rcases ho with ⟨c0, rfl⟩ | ⟨c0, rfl⟩
  · replace H := f_if_ne_t H k136_5 (by decide) (t := 10) (by decide)
    replace H := f_aload_n H k136_10 rfl
    replace H := f_gr H k136_11 (ci := 11) (f := 8) (x := 84) (by decide +kernel) (by decide) (hr 0 8 84 rfl)
    replace H := f_iload_n H k136_14 rfl
    replace H := f_iload_n H k136_15 rfl
    obtain ⟨rv, m2, ho, h9_16⟩ := f_inv H k136_16 (by decide +kernel) (as := [.int _, .int _]) (b := 84) (r := []) (by rfl) (c_sadd hr hk hk10)
    replace H := h9_16
    rcases ho with ⟨e1, rfl, e2⟩ | ⟨e1, rfl, e2⟩
    · replace H := f_iret H k136_19
      exact ⟨_, _, H, Or.inl ⟨Or.inr e1, rfl, e2⟩⟩
    · replace H := f_iret H k136_19
      exact ⟨_, _, H, Or.inr ⟨⟨c0, e1⟩, rfl, e2⟩⟩
  · replace H := f_if_ne_f H k136_5 rfl
    replace H := f_iconst H k136_8 (v := -1) (by decide)
    replace H := f_iret H k136_9
    exact ⟨_, _, H, Or.inl ⟨Or.inl c0, rfl, hk⟩⟩
theorem c_mseen {m : xM} {C : Int32} {k : Nat} {z y : Int32} (hr : rS m) (hC : m.1 314 25 = C) (hk : m.1 314 51 = nI k) (hk10 : k ≤ 10) : fC 233 [.ref 314, .int z, .int y] m (fun rv m' => snO C z k rv (m'.1 314 51)) := by
  refine fC_of (by decide) (fun d n P H => ?_)
  replace H := f_aload_n H k233_0 rfl
  replace H := f_iconst H k233_1 (v := 0) (by decide)
  replace H := f_put_i H k233_2 (ci := 12) (f := 0) (by decide +kernel) (by decide)
  have hC : (mI m 314 0 0).1 314 25 = C := by rw [mI_ne (by omega)]; exact hC
  have hk : (mI m 314 0 0).1 314 51 = nI k := by rw [mI_ne (by omega)]; exact hk
  have hr : rS (mI m 314 0 0) := hr
  generalize mI m 314 0 0 = m at *
  replace H := f_aload_n H k233_5 rfl
  replace H := f_iload_n H k233_6 rfl
  obtain ⟨rv, m2, ⟨ho, e3⟩, h9_7⟩ := f_inv H k233_7 (by decide +kernel) (as := [.int _]) (b := 314) (r := []) (by rfl) (c_misCorner hC)
  replace H := h9_7
  rw [← e3] at H
  clear e3
  have no : ∀ n, ((¬ (¬ z < 0 ∧ z < C)) ∨ k = 10) → xF 233 (xw d) P n 22 [(0, .ref 314), (1, .int z), (2, .int y)] [] m → ∃ rv m', P rv m' ∧ snO C z k rv (m'.1 314 51) := by
    intro n h H
    replace H := f_iconst H k233_22 (v := -1) (by decide)
    replace H := f_iret H k233_23
    exact ⟨_, _, H, Or.inl ⟨h, rfl, hk⟩⟩
  rcases ho with ⟨q0, rfl⟩ | ⟨q0, rfl⟩
  · replace H := f_if_eq_f H k233_10 (by decide)
    replace H := f_aload_n H k233_13 rfl
    replace H := f_gi H k233_14 (ci := 12) (f := 51) (by decide +kernel) (by decide)
    replace H := f_bipush H k233_17 (v := 10) (by decide)
    rw [hk, show (10 : Int32) = nI 10 from rfl] at H
    have Hbr := f_icmp_ne H k233_19 (t := 24) (by decide)
    clear H
    rcases Hbr with ⟨c, H⟩ | ⟨c, H⟩
    · rw [nI_inj (by omega) (by omega)] at c
      have yes : ∀ n (v : Int32) m3, rS m3 → m3.1 314 51 = nI k → xF 233 (xw d) P n 57 [(0, .ref 314), (1, .int z), (2, .int y)] [.int v, .int (nI (2 * k + 1)), .ref 332] m3 → ∃ rv m', P rv m' ∧ snO C z k rv (m'.1 314 51) := by
        intro n v m3 hr hk3 H
        have Hob := f_iast H k233_57 (c := 20) (by decide)
        clear H
        obtain ⟨hb57, H⟩ := Hob
        replace H := f_aload_n H k233_58 rfl
        replace H := f_dup H k233_59
        replace H := f_gi H k233_60 (ci := 12) (f := 51) (by decide +kernel) (by decide)
        replace H := f_iconst H k233_63 (v := 1) (by decide)
        replace H := f_iadd H k233_64
        replace H := f_put_i H k233_65 (ci := 12) (f := 51) (by decide +kernel) (by decide)
        replace H := f_aload_n H k233_68 rfl
        replace H := f_gi H k233_69 (ci := 12) (f := 51) (by decide +kernel) (by decide)
        rw [mI_at, mI_ne (by omega), hk3, nI_s] at H
        replace H := f_iret H k233_72
        exact ⟨_, _, H, Or.inr ⟨⟨q0, by omega⟩, rfl, mI_at⟩⟩
      replace H := f_aload_n H k233_24 rfl
      replace H := f_gr H k233_25 (ci := 12) (f := 50) (x := 332) (by decide +kernel) (by decide) (hr 314 50 332 rfl)
      replace H := f_iconst H k233_28 (v := 2) (by decide)
      replace H := f_aload_n H k233_29 rfl
      replace H := f_gi H k233_30 (ci := 12) (f := 51) (by decide +kernel) (by decide)
      replace H := f_imul H k233_33
      replace H := f_iload_n H k233_34 rfl
      have Hob := f_iast H k233_35 (c := 20) (by decide)
      clear H
      obtain ⟨hb35, H⟩ := Hob
      replace H := f_aload_n H k233_36 rfl
      replace H := f_gr H k233_37 (ci := 12) (f := 50) (x := 332) (by decide +kernel) (by decide) (hr 314 50 332 rfl)
      replace H := f_iconst H k233_40 (v := 2) (by decide)
      replace H := f_aload_n H k233_41 rfl
      replace H := f_gi H k233_42 (ci := 12) (f := 51) (by decide +kernel) (by decide)
      replace H := f_imul H k233_45
      replace H := f_iconst H k233_46 (v := 1) (by decide)
      replace H := f_iadd H k233_47
      replace H := f_iload_n H k233_48 rfl
      have hk2 : ∀ i v, (mI m 332 i v).1 314 51 = nI k := fun i v => by rw [mI_ne (by omega)]; exact hk
      rw [hk2, show (2 : Int32) = nI 2 from rfl, nI_mul, nI_s] at H
      have Hbr := f_if_eq H k233_49 (t := 56) (by decide)
      clear H
      rcases Hbr with ⟨c, H⟩ | ⟨c, H⟩
      · replace H := f_iconst H k233_56 (v := 0) (by decide)
        exact yes _ _ _ (show rS (mI m 332 _ _) from hr) (hk2 _ _) H
      · replace H := f_iconst H k233_52 (v := 1) (by decide)
        replace H := f_goto H k233_53 (t := 57) (by decide)
        exact yes _ _ _ (show rS (mI m 332 _ _) from hr) (hk2 _ _) H
    · rw [nI_inj (by omega) (by omega)] at c
      exact no _ (Or.inr c) H
  · replace H := f_if_eq_t H k233_10 rfl (t := 22) (by decide)
    exact no _ (Or.inl q0) H
