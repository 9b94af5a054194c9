theorem k89_0 : lkc 0 (kcode 89) = some (.iconst 0) := by decide +kernel
theorem k89_1 : lkc 1 (kcode 89) = some (.istore_n 2) := by decide +kernel
theorem k89_2 : lkc 2 (kcode 89) = some (.iload_n 2) := by decide +kernel
theorem k89_3 : lkc 3 (kcode 89) = some (.sipush 256) := by decide +kernel
theorem k89_6 : lkc 6 (kcode 89) = some (.if_icmp .ge 58) := by decide +kernel
theorem k89_9 : lkc 9 (kcode 89) = some (.iload_n 2) := by decide +kernel
theorem k89_10 : lkc 10 (kcode 89) = some (.iload_n 1) := by decide +kernel
theorem k89_11 : lkc 11 (kcode 89) = some (.iconst (-1)) := by decide +kernel
theorem k89_12 : lkc 12 (kcode 89) = some (.ixor) := by decide +kernel
theorem k89_13 : lkc 13 (kcode 89) = some (.iand) := by decide +kernel
theorem k89_14 : lkc 14 (kcode 89) = some (.ifCond .ne 44) := by decide +kernel
theorem k89_17 : lkc 17 (kcode 89) = some (.iconst 0) := by decide +kernel
theorem k89_18 : lkc 18 (kcode 89) = some (.istore_n 3) := by decide +kernel
theorem k89_19 : lkc 19 (kcode 89) = some (.iload_n 3) := by decide +kernel
theorem k89_20 : lkc 20 (kcode 89) = some (.aload_n 0) := by decide +kernel
theorem k89_21 : lkc 21 (kcode 89) = some (.getfield 29) := by decide +kernel
theorem k89_24 : lkc 24 (kcode 89) = some (.if_icmp .ge 34) := by decide +kernel
theorem k89_27 : lkc 27 (kcode 89) = some (.aload_n 0) := by decide +kernel
theorem k89_28 : lkc 28 (kcode 89) = some (.getfield 19) := by decide +kernel
theorem k89_31 : lkc 31 (kcode 89) = some (.iload_n 2) := by decide +kernel
theorem k89_32 : lkc 32 (kcode 89) = some (.bipush 8) := by decide +kernel
theorem k89_34 : lkc 34 (kcode 89) = some (.imul) := by decide +kernel
theorem k89_35 : lkc 35 (kcode 89) = some (.iload_n 3) := by decide +kernel
theorem k89_36 : lkc 36 (kcode 89) = some (.iadd) := by decide +kernel
theorem k89_37 : lkc 37 (kcode 89) = some (.iload_n 2) := by decide +kernel
theorem k89_38 : lkc 38 (kcode 89) = some (.ifCond .ne 7) := by decide +kernel
theorem k89_41 : lkc 41 (kcode 89) = some (.iconst 0) := by decide +kernel
theorem k89_42 : lkc 42 (kcode 89) = some (.goto 9) := by decide +kernel
theorem k89_45 : lkc 45 (kcode 89) = some (.aload_n 0) := by decide +kernel
theorem k89_46 : lkc 46 (kcode 89) = some (.iload_n 3) := by decide +kernel
theorem k89_47 : lkc 47 (kcode 89) = some (.iload_n 2) := by decide +kernel
theorem k89_48 : lkc 48 (kcode 89) = some (.invokevirtual 67) := by decide +kernel
theorem k89_51 : lkc 51 (kcode 89) = some (.iastore) := by decide +kernel
theorem k89_52 : lkc 52 (kcode 89) = some (.iinc 3 1) := by decide +kernel
theorem k89_55 : lkc 55 (kcode 89) = some (.goto (-36)) := by decide +kernel
theorem k89_58 : lkc 58 (kcode 89) = some (.iinc 2 1) := by decide +kernel
theorem k89_61 : lkc 61 (kcode 89) = some (.goto (-59)) := by decide +kernel
theorem k89_64 : lkc 64 (kcode 89) = some (.return_) := by decide +kernel
theorem k90_0 : lkc 0 (kcode 90) = some (.ldc 30) := by decide +kernel
theorem k90_2 : lkc 2 (kcode 90) = some (.istore_n 3) := by decide +kernel
theorem k90_3 : lkc 3 (kcode 90) = some (.iconst 0) := by decide +kernel
theorem k90_4 : lkc 4 (kcode 90) = some (.istore 4) := by decide +kernel
theorem k90_6 : lkc 6 (kcode 90) = some (.iload 4) := by decide +kernel
theorem k90_8 : lkc 8 (kcode 90) = some (.aload_n 0) := by decide +kernel
theorem k90_9 : lkc 9 (kcode 90) = some (.getfield 29) := by decide +kernel
theorem k90_12 : lkc 12 (kcode 90) = some (.if_icmp .ge 31) := by decide +kernel
theorem k90_15 : lkc 15 (kcode 90) = some (.iload_n 2) := by decide +kernel
theorem k90_16 : lkc 16 (kcode 90) = some (.iload 4) := by decide +kernel
theorem k90_18 : lkc 18 (kcode 90) = some (.ishr) := by decide +kernel
theorem k90_19 : lkc 19 (kcode 90) = some (.iconst 1) := by decide +kernel
theorem k90_20 : lkc 20 (kcode 90) = some (.iand) := by decide +kernel
theorem k90_21 : lkc 21 (kcode 90) = some (.ifCond .eq 16) := by decide +kernel
theorem k90_24 : lkc 24 (kcode 90) = some (.iload_n 3) := by decide +kernel
theorem k90_25 : lkc 25 (kcode 90) = some (.aload_n 0) := by decide +kernel
theorem k90_26 : lkc 26 (kcode 90) = some (.iload_n 1) := by decide +kernel
theorem k90_27 : lkc 27 (kcode 90) = some (.iload_n 2) := by decide +kernel
theorem k90_28 : lkc 28 (kcode 90) = some (.iload 4) := by decide +kernel
theorem k90_30 : lkc 30 (kcode 90) = some (.invokevirtual 70) := by decide +kernel
theorem k90_33 : lkc 33 (kcode 90) = some (.invokestatic 48) := by decide +kernel
theorem k90_36 : lkc 36 (kcode 90) = some (.istore_n 3) := by decide +kernel
theorem k90_37 : lkc 37 (kcode 90) = some (.iinc 4 1) := by decide +kernel
theorem k90_40 : lkc 40 (kcode 90) = some (.goto (-34)) := by decide +kernel
theorem k90_43 : lkc 43 (kcode 90) = some (.iload_n 3) := by decide +kernel
theorem k90_44 : lkc 44 (kcode 90) = some (.ireturn) := by decide +kernel
theorem k91_0 : lkc 0 (kcode 91) = some (.aload_n 0) := by decide +kernel
theorem k91_1 : lkc 1 (kcode 91) = some (.iload_n 1) := by decide +kernel
theorem k91_2 : lkc 2 (kcode 91) = some (.iload_n 3) := by decide +kernel
theorem k91_3 : lkc 3 (kcode 91) = some (.invokevirtual 58) := by decide +kernel
theorem k91_6 : lkc 6 (kcode 91) = some (.istore 4) := by decide +kernel
theorem k91_8 : lkc 8 (kcode 91) = some (.iload 4) := by decide +kernel
theorem k91_10 : lkc 10 (kcode 91) = some (.iconst (-1)) := by decide +kernel
theorem k91_11 : lkc 11 (kcode 91) = some (.if_icmp .ne 8) := by decide +kernel
theorem k91_14 : lkc 14 (kcode 91) = some (.ldc 30) := by decide +kernel
theorem k91_16 : lkc 16 (kcode 91) = some (.goto 23) := by decide +kernel
theorem k91_19 : lkc 19 (kcode 91) = some (.ldc 30) := by decide +kernel
theorem k91_21 : lkc 21 (kcode 91) = some (.iload 4) := by decide +kernel
theorem k91_23 : lkc 23 (kcode 91) = some (.aload_n 0) := by decide +kernel
theorem k91_24 : lkc 24 (kcode 91) = some (.iload_n 3) := by decide +kernel
theorem k91_25 : lkc 25 (kcode 91) = some (.iload_n 2) := by decide +kernel
theorem k91_26 : lkc 26 (kcode 91) = some (.iconst 1) := by decide +kernel
theorem k91_27 : lkc 27 (kcode 91) = some (.iload_n 3) := by decide +kernel
theorem k91_28 : lkc 28 (kcode 91) = some (.ishl) := by decide +kernel
theorem k91_29 : lkc 29 (kcode 91) = some (.iconst (-1)) := by decide +kernel
theorem k91_30 : lkc 30 (kcode 91) = some (.ixor) := by decide +kernel
theorem k91_31 : lkc 31 (kcode 91) = some (.iand) := by decide +kernel
theorem k91_32 : lkc 32 (kcode 91) = some (.invokevirtual 74) := by decide +kernel
theorem k91_35 : lkc 35 (kcode 91) = some (.iadd) := by decide +kernel
theorem k91_36 : lkc 36 (kcode 91) = some (.invokestatic 48) := by decide +kernel
theorem k91_39 : lkc 39 (kcode 91) = some (.ireturn) := by decide +kernel
theorem k92_0 : lkc 0 (kcode 92) = some (.aload_n 0) := by decide +kernel
theorem k92_1 : lkc 1 (kcode 92) = some (.getfield 19) := by decide +kernel
theorem k92_4 : lkc 4 (kcode 92) = some (.iload_n 2) := by decide +kernel
theorem k92_5 : lkc 5 (kcode 92) = some (.bipush 8) := by decide +kernel
theorem k92_7 : lkc 7 (kcode 92) = some (.imul) := by decide +kernel
theorem k92_8 : lkc 8 (kcode 92) = some (.iload_n 1) := by decide +kernel
theorem k92_9 : lkc 9 (kcode 92) = some (.iadd) := by decide +kernel
theorem k92_10 : lkc 10 (kcode 92) = some (.iaload) := by decide +kernel
theorem k92_11 : lkc 11 (kcode 92) = some (.ireturn) := by decide +kernel
/-! forward: the feast -/
theorem fwO_sy {C : Nat} {c : Mt} (h0 : ∀ i, c i i = 0) (hs : ∀ i j, c i j = c j i) : ∀ o, o ≤ C → ∀ i j, i < C → j < C → fwO C c o i j = fwO C c o j i := by
  intro o
  induction o with
  | zero => exact fun _ i j _ _ => hs i j
  | succ o ih =>
    intro ho i j hi hj
    rw [fwO_st h0 o hi hj, fwO_st h0 o hj hi, ih (by omega) i j hi hj, ih (by omega) i o hi (by omega), ih (by omega) o j (by omega) hj, Nat.add_comm]
theorem stR_sy {T cX cM : Mt} (h : stR T cX cM) : ∀ i j, cM i j = cM j i := by
  intro i j
  have h1 := h i j
  have h2 := h j i
  rw [h1.1] at h1
  rcases h1.2 with ⟨x0, x1, x2, x3⟩ | ⟨x0, ⟨x1, x2, x3⟩ | ⟨x1, x2, x3, x4⟩⟩ <;> rcases h2.2 with ⟨y0, y1, y2, y3⟩ | ⟨y0, ⟨y1, y2, y3⟩ | ⟨y1, y2, y3, y4⟩⟩ <;> omega
theorem dwk_40 {D : Mt} (h : ∀ a b, D a b ≤ 40 ∨ D a b = 100000) : ∀ l a, dwk D a l < 100000 → dwk D a l ≤ 40 * l.length := by
  intro l
  induction l with
  | nil => exact fun a _ => Nat.zero_le _
  | cons c l ih =>
    intro a hl
    have e1 : dwk D a (c :: l) = D a c + dwk D c l := rfl
    rw [e1] at hl
    have := ih c (by omega)
    rw [e1, List.length_cons]
    rcases h a c with q | q <;> omega
theorem wyM_280 {C S w : Nat} {A B Y : Nat → Nat} (hC : C ≤ 8) (hS : ∀ s, s < S → A s ≠ B s ∧ 1 ≤ Y s ∧ Y s ≤ 40) {a b : Nat} (ha : a < C) (hb : b < C) (h : wyM C S A B Y w a b < 100000) : wyM C S A B Y w a b ≤ 280 := by
  have hst := stR_ok (w := w) hS S (Nat.le_refl _)
  obtain ⟨hR, dX, dM⟩ := stR_R hst
  obtain ⟨l, l1, l2, l3⟩ := fw_some dM C (Nat.le_refl _) a b ha hb
  obtain ⟨k, k1, k2, k3, k4⟩ := dw_sim (D := wsM A B Y w (bas 100000) S) l a l1
  have e : dwk (wsM A B Y w (bas 100000) S) a l = wyM C S A B Y w a b := l3
  have i0 := dwk_40 (D := wsM A B Y w (bas 100000) S) (fun i j => by
    rcases (hst i j).2 with ⟨x0, x1, x2, x3⟩ | ⟨x0, ⟨x1, x2, x3⟩ | ⟨x1, x2, x3, x4⟩⟩ <;> omega) k a (by omega)
  have i1 := fw_all dM k a ha k4
  rw [k1, l2] at i1
  have i3 : wyM C S A B Y w a b ≤ dwk (wsM A B Y w (bas 100000) S) a k := i1
  have i4 := nod_len C (a :: k) k3 (fun x hx => by
    rcases List.mem_cons.mp hx with e2 | e2
    · rw [e2]; exact ha
    · exact k4 x e2)
  rw [List.length_cons] at i4
  omega
theorem feH_ok {C S w : Nat} {A B Y : Nat → Nat} (hC : C ≤ 8) (hS : ∀ s, s < S → A s ≠ B s ∧ 1 ≤ Y s ∧ Y s ≤ 40) : feH C (wyM C S A B Y w) := by
  have hst := stR_ok (w := w) hS S (Nat.le_refl _)
  obtain ⟨hR, dX, dM⟩ := stR_R hst
  refine ⟨fwO_le (wsM_le hS) C, fun a c b ha hc hb h1 h2 => ?_, fun a b ha hb h => ?_⟩
  · have i1 := wyM_280 hC hS ha hc h1
    have i2 := wyM_280 hC hS hc hb h2
    have i3 : wyM C S A B Y w a b ≤ wyM C S A B Y w a c + wyM C S A B Y w c b := fwO_tr dM C (Nat.le_refl _) c hc a b ha hb
    omega
  · have e : wyM C S A B Y w a b = wyM C S A B Y w b a := fwO_sy dM (stR_sy hst) C (Nat.le_refl _) a b ha hb
    rw [← e]
    exact h
theorem btN_ex {A B Y : Nat → Nat} {w a b : Nat} : ∀ s, btN A B Y w a b s ≠ 0 → ∃ e, e < s ∧ w.testBit e = false ∧ ((A e = a ∧ B e = b) ∨ (A e = b ∧ B e = a)) := by
  intro s
  induction s with
  | zero => exact fun h => absurd rfl h
  | succ s ih =>
    intro h
    by_cases q : (w.testBit s = false ∧ ((A s = a ∧ B s = b) ∨ (A s = b ∧ B s = a))) ∧ (btN A B Y w a b s = 0 ∨ Y s < btN A B Y w a b s)
    · exact ⟨s, Nat.lt_succ_self s, q.1⟩
    · rw [btN_f q] at h
      obtain ⟨e, e1, e2⟩ := ih h
      exact ⟨e, by omega, e2⟩
theorem btN_nz {A B Y : Nat → Nat} {w a b e : Nat} (hb : w.testBit e = false) (hm : (A e = a ∧ B e = b) ∨ (A e = b ∧ B e = a)) : ∀ s, e < s → (∀ i, i < s → 1 ≤ Y i) → btN A B Y w a b s ≠ 0 := by
  intro s
  induction s with
  | zero => exact fun h => absurd h (Nat.not_lt_zero e)
  | succ s ih =>
    intro h hY
    have hs := hY s (Nat.lt_succ_self s)
    by_cases q : (w.testBit s = false ∧ ((A s = a ∧ B s = b) ∨ (A s = b ∧ B s = a))) ∧ (btN A B Y w a b s = 0 ∨ Y s < btN A B Y w a b s)
    · rw [btN_t q.1 q.2]
      omega
    · rw [btN_f q]
      by_cases c : e = s
      · subst c
        exact fun z => q ⟨⟨hb, hm⟩, Or.inl z⟩
      · exact ih (by omega) (fun i hi => hY i (by omega))
theorem swp_mn {A B : Nat → Nat} {w y i s : Nat} (h : (swp A B w s y).testBit i = true) : ∀ k, (swp A B w (s + k) y).testBit i = true := by
  intro k
  induction k with
  | zero => exact h
  | succ k ih =>
    rw [← Nat.add_assoc]
    by_cases q : w.testBit (s + k) = false ∧ ((swp A B w (s + k) y).testBit (A (s + k)) = true ∨ (swp A B w (s + k) y).testBit (B (s + k)) = true)
    · rw [swp_t q.1 q.2, Nat.testBit_or, ih]
      rfl
    · rw [swp_f q]
      exact ih
theorem swp_cl {A B : Nat → Nat} {w y S s : Nat} (hf : swp A B w S y = y) (hs : s < S) (hw : w.testBit s = false) (h : y.testBit (A s) = true ∨ y.testBit (B s) = true) : y.testBit (A s) = true ∧ y.testBit (B s) = true := by
  have e : swp A B w (s + 1) y = swp A B w s y ||| (2 ^ A s ||| 2 ^ B s) := swp_t hw (h.imp (fun q => swp_sub q s) (fun q => swp_sub q s))
  have key : ∀ i, (i = A s ∨ i = B s) → y.testBit i = true := by
    intro i hi
    have h1 : (swp A B w (s + 1) y).testBit i = true := by
      rw [e, Nat.testBit_or, Nat.testBit_or, Nat.testBit_two_pow, Nat.testBit_two_pow]
      rcases hi with q | q
      · rw [q, show decide (A s = A s) = true from decide_eq_true rfl, Bool.true_or, Bool.or_true]
      · rw [q, show decide (B s = B s) = true from decide_eq_true rfl, Bool.or_true, Bool.or_true]
    have h2 := swp_mn h1 (S - (s + 1))
    rw [show s + 1 + (S - (s + 1)) = S by omega, hf] at h2
    exact h2
  exact ⟨key _ (Or.inl rfl), key _ (Or.inr rfl)⟩
theorem rc_iff {C S w a v : Nat} {A B Y : Nat → Nat} (hC : C ≤ 8) (hS : ∀ s, s < S → A s ≠ B s ∧ 1 ≤ Y s ∧ Y s ≤ 40) (hab : ∀ s, s < S → A s < C ∧ B s < C) (ha : a < C) : (rcF A B S w a).testBit v = true ↔ v < C ∧ wyM C S A B Y w a v < 100000 := by
  have hst := stR_ok (w := w) hS S (Nat.le_refl _)
  obtain ⟨hR, dX, dM⟩ := stR_R hst
  obtain ⟨f1, f2, f3⟩ := feH_ok (w := w) hC hS
  have hT : ∀ i j, btN A B Y w i j S = (wsX A B Y w S).1 i j := fun i j => btN_X hS S (Nat.le_refl _)
  have adj : ∀ s, s < S → w.testBit s = false → wyM C S A B Y w (A s) (B s) < 100000 := by
    intro s hs hw
    have h1 := btN_nz (A := A) (B := B) (Y := Y) (a := A s) (b := B s) hw (Or.inl ⟨rfl, rfl⟩) S hs (fun i hi => (hS i hi).2.1)
    rw [hT] at h1
    have h2 : wyM C S A B Y w (A s) (B s) ≤ wsM A B Y w (bas 100000) S (A s) (B s) := fwO_dn dM (hab s hs).1 (hab s hs).2 C
    rcases (hst (A s) (B s)).2 with ⟨x0, x1, x2, x3⟩ | ⟨x0, ⟨x1, x2, x3⟩ | ⟨x1, x2, x3, x4⟩⟩
    · exact absurd x1 h1
    · exact absurd x1 h1
    · omega
  constructor
  · have sw : ∀ y, (∀ v, y.testBit v = true → v < C ∧ wyM C S A B Y w a v < 100000) → ∀ s, s ≤ S → ∀ v, (swp A B w s y).testBit v = true → v < C ∧ wyM C S A B Y w a v < 100000 := by
      intro y hy s
      induction s with
      | zero => exact fun _ v hv => hy v hv
      | succ s ih =>
        intro hs v hv
        have ih := ih (by omega)
        by_cases q : w.testBit s = false ∧ ((swp A B w s y).testBit (A s) = true ∨ (swp A B w s y).testBit (B s) = true)
        · rw [swp_t q.1 q.2, Nat.testBit_or, Nat.testBit_or, Nat.testBit_two_pow, Nat.testBit_two_pow] at hv
          obtain ⟨cA, cB⟩ := hab s (by omega)
          have d1 := adj s (by omega) q.1
          have d2 := f3 _ _ cA cB d1
          have both : wyM C S A B Y w a (A s) < 100000 ∧ wyM C S A B Y w a (B s) < 100000 := by
            rcases q.2 with z | z
            · have := (ih _ z).2
              exact ⟨this, f2 a (A s) (B s) ha cA cB this d1⟩
            · have := (ih _ z).2
              exact ⟨f2 a (B s) (A s) ha cB cA this d2, this⟩
          by_cases e1 : A s = v
          · rw [← e1]
            exact ⟨cA, both.1⟩
          · by_cases e2 : B s = v
            · rw [← e2]
              exact ⟨cB, both.2⟩
            · rw [decide_eq_false e1, decide_eq_false e2, Bool.or_false, Bool.or_false] at hv
              exact ih v hv
        · rw [swp_f q] at hv
          exact ih v hv
    have it : ∀ k, ∀ v, (itn (swp A B w S) k (2 ^ a)).testBit v = true → v < C ∧ wyM C S A B Y w a v < 100000 := by
      intro k
      induction k with
      | zero =>
        intro v hv
        have hv : (2 ^ a).testBit v = true := hv
        rw [Nat.testBit_two_pow] at hv
        have e : a = v := of_decide_eq_true hv
        rw [← e]
        have z : wyM C S A B Y w a a = 0 := fwO_d dM C a
        exact ⟨ha, by omega⟩
      | succ k ih =>
        intro v hv
        rw [itn_s] at hv
        exact sw _ ih S (Nat.le_refl _) v hv
    exact it 8 v
  · rintro ⟨hv, hd⟩
    obtain ⟨l, l1, l2, l3⟩ := fw_some dM C (Nat.le_refl _) a v ha hv
    have e : dwk (wsM A B Y w (bas 100000) S) a l = wyM C S A B Y w a v := l3
    have fx : swp A B w S (rcF A B S w a) = rcF A B S w a := swp_fix (k := 8) hab ha (by omega)
    have ha0 : (rcF A B S w a).testBit a = true := by
      have : ∀ k, (itn (swp A B w S) k (2 ^ a)).testBit a = true := by
        intro k
        induction k with
        | zero =>
          show (2 ^ a).testBit a = true
          rw [Nat.testBit_two_pow]
          exact decide_eq_true rfl
        | succ k ih =>
          rw [itn_s]
          exact swp_sub ih S
      exact this 8
    have go : ∀ (l : List Nat) c, (rcF A B S w a).testBit c = true → dwk (wsM A B Y w (bas 100000) S) c l < 100000 → (rcF A B S w a).testBit (dwl c l) = true := by
      intro l
      induction l with
      | nil => exact fun c h _ => h
      | cons x l ih =>
        intro c hc hl
        have e1 : dwk (wsM A B Y w (bas 100000) S) c (x :: l) = wsM A B Y w (bas 100000) S c x + dwk (wsM A B Y w (bas 100000) S) x l := rfl
        rw [e1] at hl
        refine ih x ?_ (by omega)
        rcases (hst c x).2 with ⟨x0, x1, x2, x3⟩ | ⟨x0, ⟨x1, x2, x3⟩ | ⟨x1, x2, x3, x4⟩⟩
        · rw [← x0]
          exact hc
        · omega
        · obtain ⟨s, s1, s2, s3⟩ := btN_ex (A := A) (B := B) (Y := Y) (w := w) (a := c) (b := x) S (by rw [hT]; omega)
          rcases s3 with ⟨p1, p2⟩ | ⟨p1, p2⟩
          · rw [← p2]
            exact (swp_cl fx s1 s2 (Or.inl (by rw [p1]; exact hc))).2
          · rw [← p1]
            exact (swp_cl fx s1 s2 (Or.inr (by rw [p2]; exact hc))).1
    have := go l a ha0 (by omega)
    rw [l2] at this
    exact this
/-- the table of the feasts -/
def frF (m m2 : xM) : Prop := m2.2 = m.2 ∧ ∀ a i, a ≠ 82 → m2.1 a i = m.1 a i
theorem frF_rf (m : xM) : frF m m := ⟨rfl, fun _ _ _ => rfl⟩
theorem frF_m {m m2 : xM} {i : Nat} {v : Int32} (h : frF m m2) : frF m (mI m2 82 i v) := ⟨h.1, fun a j q => (mI_ne (by omega)).trans (h.2 a j q)⟩
theorem frF_r {m m2 : xM} (h : frF m m2) (hr : rS m) : rS m2 := fun a i b e => by rw [h.1]; exact hr a i b e
theorem frF_X {m m2 : xM} {C : Nat} {T X : Mt} (hC : C ≤ 8) (h : frF m m2) (hX : mX m C T X) : mX m2 C T X := ⟨by rw [h.2 _ _ (by omega)]; exact hX.1, fun a b ha hb => by
  rw [h.2 (65 + a) _ (by omega), h.2 (74 + a) _ (by omega)]
  exact hX.2 a b ha hb⟩
def tbC (m : xM) (C : Nat) (D : Mt) (left a : Nat) : Prop := ∃ v, isM C D a left v ∧ m.1 82 (8 * left + a) = nI v
theorem tbC_f {m : xM} {C : Nat} {D : Mt} {left a i : Nat} {v : Int32} (h : tbC m C D left a) (e : i ≠ 8 * left + a) : tbC (mI m 82 i v) C D left a := by
  obtain ⟨u, u1, u2⟩ := h
  exact ⟨u, u1, by rw [mI_ne (by omega)]; exact u2⟩
theorem c_feastOf {m : xM} {a left : Nat} (hr : rS m) (ha : a < 8) (hl : left < 256) : fC 92 [.ref 63, .int (nI a), .int (nI left)] m (fun rv m' => rv = some (.int (m.1 82 (8 * left + a))) ∧ m = m') := by
  refine fC_of (by decide) (fun d n P H => ?_)
  replace H := f_aload_n H k92_0 rfl
  replace H := f_gr H k92_1 (ci := 10) (f := 2) (x := 82) (by decide +kernel) (by decide) (hr 63 2 82 rfl)
  replace H := f_iload_n H k92_4 rfl
  replace H := f_bipush H k92_5 (v := 8) (by decide)
  replace H := f_imul H k92_7
  replace H := f_iload_n H k92_8 rfl
  replace H := f_iadd H k92_9
  rw [show (8 : Int32) = nI 8 from rfl, nI_mul, r_ad, Nat.mul_comm left 8] at H
  have Hob := f_iald H k92_10 (c := 2048) (by decide)
  clear H
  obtain ⟨hb10, H⟩ := Hob
  rw [nI_clamp (by omega)] at H
  replace H := f_iret H k92_11
  exact ⟨_, _, H, rfl, rfl⟩
theorem c_yardsBy {m : xM} {C a left c F : Nat} {T X D : Mt} (hr : rS m) (hC8 : C ≤ 8) (hX : mX m C T X) (hXb : mle 1000000 X) (h16 : ∀ a b, a < C → b < C → (X a b < 1000000 ↔ D a b < 100000) ∧ (X a b < 1000000 → X a b / 16 = D a b)) (ha : a < C) (hc : c < C) (hl : left < 256) (hF : m.1 82 (8 * rmB left c + c) = nI F) (hF6 : F ≤ 1000000) : fC 91 [.ref 63, .int (nI a), .int (nI left), .int (nI c)] m (fun rv m' => rv = some (.int (nI (if D a c < 100000 then min 1000000 (D a c + F) else 1000000))) ∧ m = m') := by
  refine fC_of (by decide) (fun d n P H => ?_)
  obtain ⟨q1, q2⟩ := h16 a c ha hc
  have hl2 : rmB left c < 256 := rmB_lt (k := 8) hl
  have e6 : (1000000 : Int32) = nI 1000000 := rfl
  replace H := f_aload_n H k91_0 rfl
  replace H := f_iload_n H k91_1 rfl
  replace H := f_iload_n H k91_2 rfl
  obtain ⟨rv, m3, ⟨rfl, e3⟩, h9_3⟩ := f_inv H k91_3 (by decide +kernel) (as := [.int _, .int _]) (b := 63) (r := []) (by rfl) (c_yardsB hr hC8 ha hc hX hXb)
  replace H := h9_3
  rw [← e3] at H
  clear e3
  by_cases z : X a c < 1000000
  · rw [if_pos z, q2 z] at H
    rw [if_pos (q1.mp z)]
    have hd := q1.mp z
    replace H := f_istore H k91_6 (l2 := [(4, .int _), (0, .ref 63), (1, .int (nI a)), (2, .int (nI left)), (3, .int (nI c))]) rfl
    replace H := f_iload H k91_8 rfl
    replace H := f_iconst H k91_10 (v := -1) (by decide)
    replace H := f_icmp_ne_t H k91_11 (nI_ne1 (by omega)) (t := 19) (by decide)
    replace H := f_ldc_i H k91_19 (v := 1000000) (by decide +kernel)
    replace H := f_iload H k91_21 rfl
    replace H := f_aload_n H k91_23 rfl
    replace H := f_iload_n H k91_24 rfl
    replace H := f_iload_n H k91_25 rfl
    replace H := f_iconst H k91_26 (v := 1) (by decide)
    replace H := f_iload_n H k91_27 rfl
    replace H := f_ishl H k91_28
    replace H := f_iconst H k91_29 (v := -1) (by decide)
    replace H := f_ixor H k91_30
    replace H := f_iand H k91_31
    rw [shl_n (by omega), rmB_n] at H
    obtain ⟨rv, m4, ⟨rfl, e3⟩, h9_32⟩ := f_inv H k91_32 (by decide +kernel) (as := [.int _, .int _]) (b := 63) (r := [.int _, .int _]) (by rfl) (c_feastOf hr (by omega) hl2)
    replace H := h9_32
    rw [← e3, hF] at H
    clear e3
    replace H := f_iadd H k91_35
    rw [r_ad, e6] at H
    obtain ⟨rv, m5, ⟨rfl, e3⟩, h9_36⟩ := f_ins H k91_36 (by decide +kernel) (as := [.int _, .int _]) (r := []) (by rfl) (c_minI (by omega) (by omega))
    replace H := h9_36
    rw [← e3] at H
    clear e3
    replace H := f_iret H k91_39
    exact ⟨_, _, H, rfl, rfl⟩
  · rw [if_neg z] at H
    rw [if_neg (fun h => z (q1.mpr h))]
    replace H := f_istore H k91_6 (l2 := [(4, .int _), (0, .ref 63), (1, .int (nI a)), (2, .int (nI left)), (3, .int (nI c))]) rfl
    replace H := f_iload H k91_8 rfl
    replace H := f_iconst H k91_10 (v := -1) (by decide)
    replace H := f_icmp_ne_f H k91_11 (by decide)
    replace H := f_ldc_i H k91_14 (v := 1000000) (by decide +kernel)
    replace H := f_goto H k91_16 (t := 39) (by decide)
    rw [e6] at H
    replace H := f_iret H k91_39
    exact ⟨_, _, H, rfl, rfl⟩
set_option maxHeartbeats 1000000 in
theorem c_fewest {m : xM} {C a left : Nat} {T X D : Mt} (hr : rS m) (hC8 : C ≤ 8) (hX : mX m C T X) (hXb : mle 1000000 X) (h16 : ∀ a b, a < C → b < C → (X a b < 1000000 ↔ D a b < 100000) ∧ (X a b < 1000000 → X a b / 16 = D a b)) (ha : a < C) (hl : left < 256) (hl0 : left ≠ 0) (hF : ∀ c, c < C → left.testBit c = true → tbC m C D (rmB left c) c) : fC 90 [.ref 63, .int (nI a), .int (nI left)] m (fun rv m' => (∃ v, rv = some (.int (nI v)) ∧ isM C D a left v) ∧ m = m') := by
  refine fC_of (by decide) (fun d n9 P H => ?_)
  have lp : ∀ n9 e v, e ≤ C → feE C D a left e v → xF 90 (xw d) P n9 6 [(4, .int (nI e)), (3, .int (nI v)), (0, .ref 63), (1, .int (nI a)), (2, .int (nI left))] [] m → ∃ rv m', P rv m' ∧ (∃ v, rv = some (.int (nI v)) ∧ isM C D a left v) ∧ m = m' := by
    intro n9
    induction n9 with
    | zero => exact fun e v _ _ H => (xF_0 H).elim
    | succ n9 ih =>
      intro e v he hE H
      have hv6 := hE.1
      replace H := f1_iload H k90_6 rfl
      replace H := f_aload_n H k90_8 rfl
      replace H := f_gi H k90_9 (ci := 10) (f := 3) (by decide +kernel) (by decide)
      rw [hX.1] at H
      have Hbr := f_icmp_ge H k90_12 (t := 43) (by decide)
      clear H
      rcases Hbr with ⟨c0, H⟩ | ⟨c0, H⟩
      · rw [nxle (by omega) (by omega)] at c0
        have ee : e = C := by omega
        rw [ee] at hE
        replace H := f_iload_n H k90_43 rfl
        replace H := f_iret H k90_44
        exact ⟨_, _, H, ⟨v, rfl, feE_C hE hl0⟩, rfl⟩
      · rw [nxle (by omega) (by omega)] at c0
        replace H := f_iload_n H k90_15 rfl
        replace H := f_iload H k90_16 rfl
        replace H := f_ishr H k90_18
        replace H := f_iconst H k90_19 (v := 1) (by decide)
        replace H := f_iand H k90_20
        rw [has_n (by omega) (by omega)] at H
        cases hb : left.testBit e with
        | false =>
          rw [hb] at H
          replace H := f_if_eq_t H k90_21 rfl (t := 37) (by decide)
          replace H := f_iinc H k90_37 rfl (l2 := [(4, .int (nI e + 1)), (3, .int (nI v)), (0, .ref 63), (1, .int (nI a)), (2, .int (nI left))]) rfl
          replace H := f_goto H k90_40 (t := 6) (by decide)
          rw [nI_s] at H
          exact ih (e + 1) v (by omega) (feE_no hE hb) H
        | true =>
          rw [hb] at H
          obtain ⟨F, f1, f2⟩ := hF e (by omega) hb
          have hy := ynM_of (a := a) hb (show e < C by omega) f1
          have hy6 := hy.1
          replace H := f_if_eq_f H k90_21 (by decide)
          replace H := f_iload_n H k90_24 rfl
          replace H := f_aload_n H k90_25 rfl
          replace H := f_iload_n H k90_26 rfl
          replace H := f_iload_n H k90_27 rfl
          replace H := f_iload H k90_28 rfl
          obtain ⟨rv, m3, ⟨rfl, e3⟩, h9_30⟩ := f_inv H k90_30 (by decide +kernel) (as := [.int _, .int _, .int _]) (b := 63) (r := [.int _]) (by rfl) (c_yardsBy hr hC8 hX hXb h16 ha (by omega) hl f2 f1.1)
          replace H := h9_30
          rw [← e3] at H
          clear e3
          obtain ⟨rv, m4, ⟨rfl, e3⟩, h9_33⟩ := f_ins H k90_33 (by decide +kernel) (as := [.int _, .int _]) (r := []) (by rfl) (c_minI (by omega) (by omega))
          replace H := h9_33
          rw [← e3] at H
          clear e3
          obtain ⟨u, hu⟩ : ∃ u, u = min v (if D a e < 100000 then min 1000000 (D a e + F) else 1000000) := ⟨_, rfl⟩
          rw [← hu] at H
          replace H := f_istore_n H k90_36 (l2 := [(3, .int (nI u)), (4, .int (nI e)), (0, .ref 63), (1, .int (nI a)), (2, .int (nI left))]) rfl
          replace H := f_iinc H k90_37 rfl (l2 := [(4, .int (nI e + 1)), (3, .int (nI u)), (0, .ref 63), (1, .int (nI a)), (2, .int (nI left))]) rfl
          replace H := f_goto H k90_40 (t := 6) (by decide)
          rw [nI_s] at H
          exact ih (e + 1) u (by omega) (by rw [hu]; exact feE_ye hE hy) H
  replace H := f_ldc_i H k90_0 (v := 1000000) (by decide +kernel)
  rw [show (1000000 : Int32) = nI 1000000 from rfl] at H
  replace H := f_istore_n H k90_2 (l2 := [(3, .int (nI 1000000)), (0, .ref 63), (1, .int (nI a)), (2, .int (nI left))]) rfl
  replace H := f_iconst H k90_3 (v := 0) (by decide)
  replace H := f_istore H k90_4 (l2 := [(4, .int 0), (3, .int (nI 1000000)), (0, .ref 63), (1, .int (nI a)), (2, .int (nI left))]) rfl
  replace H := f_ext H (l' := [(4, .int (nI 0)), (3, .int (nI 1000000)), (0, .ref 63), (1, .int (nI a)), (2, .int (nI left))]) (lE_cons rfl (lE_cons rfl (lE_cons rfl (lE_cons rfl (lE_cons rfl (lE_nil)))))) rfl rfl
  exact lp _ 0 _ (Nat.zero_le _) feE_0 H
def subS9 (left ch : Nat) : Prop := ∀ i, left.testBit i = true → ch.testBit i = true
theorem sub_b {left ch : Nat} (hl : left < 256) : nI left &&& (nI ch ^^^ -1) = nI 0 ↔ subS9 left ch := by
  rw [sub_0]
  refine ⟨fun h i hb => ?_, fun h i _ hb => h i hb⟩
  by_cases c : i < 32
  · exact h i c hb
  · rw [Nat.testBit_lt_two_pow (Nat.lt_of_lt_of_le hl (Nat.pow_le_pow_right (n := 2) (i := 8) (j := i) (by omega) (by omega)))] at hb
    cases hb
set_option maxHeartbeats 2000000 in
theorem c_planFeast {m : xM} {C ch : Nat} {T X D : Mt} (hr : rS m) (hC8 : C ≤ 8) (hX : mX m C T X) (hXb : mle 1000000 X) (h16 : ∀ a b, a < C → b < C → (X a b < 1000000 ↔ D a b < 100000) ∧ (X a b < 1000000 → X a b / 16 = D a b)) (hch : ch < 256) : fC 89 [.ref 63, .int (nI ch)] m (fun rv m' => rv = none ∧ frF m m' ∧ ∀ left a, left < 256 → subS9 left ch → a < C → tbC m' C D left a) := by
  refine fC_of (by decide) (fun d n9 P H => ?_)
  have e256 : (256 : Int32) = nI 256 := rfl
  have lp : ∀ n9 L v3 m1, L ≤ 256 → frF m m1 → (∀ left a, left < L → subS9 left ch → a < C → tbC m1 C D left a) → xF 89 (xw d) P n9 2 [(2, .int (nI L)), (0, .ref 63), (1, .int (nI ch)), (3, .int v3)] [] m1 → ∃ rv m', P rv m' ∧ rv = none ∧ frF m m' ∧ ∀ left a, left < 256 → subS9 left ch → a < C → tbC m' C D left a := by
    intro n9
    induction n9 with
    | zero => exact fun L v3 m1 _ _ _ H => (xF_0 H).elim
    | succ n9 ih =>
      intro L v3 m1 hL hf ht H
      have nxt : ∀ n2 v3 m2, n2 ≤ n9 → L < 256 → frF m m2 → (∀ left a, left < L + 1 → subS9 left ch → a < C → tbC m2 C D left a) → xF 89 (xw d) P n2 58 [(2, .int (nI L)), (0, .ref 63), (1, .int (nI ch)), (3, .int v3)] [] m2 → ∃ rv m', P rv m' ∧ rv = none ∧ frF m m' ∧ ∀ left a, left < 256 → subS9 left ch → a < C → tbC m' C D left a := by
        intro n2 v3 m2 hn2 hL2 hf2 ht2 H
        replace H := f_up H hn2
        replace H := f_iinc H k89_58 rfl (l2 := [(2, .int (nI L + 1)), (0, .ref 63), (1, .int (nI ch)), (3, .int v3)]) rfl
        replace H := f_goto H k89_61 (t := 2) (by decide)
        rw [nI_s] at H
        exact ih (L + 1) v3 m2 hL2 hf2 ht2 H
      have inn : L < 256 → subS9 L ch → ∀ N e m1, N ≤ n9 → e ≤ C → frF m m1 → (∀ left a, left < L → subS9 left ch → a < C → tbC m1 C D left a) → (∀ a, a < e → tbC m1 C D L a) → xF 89 (xw d) P N 19 [(3, .int (nI e)), (2, .int (nI L)), (0, .ref 63), (1, .int (nI ch))] [] m1 → ∃ rv m', P rv m' ∧ rv = none ∧ frF m m' ∧ ∀ left a, left < 256 → subS9 left ch → a < C → tbC m' C D left a := by
        intro hL2 hsub N
        induction N with
        | zero => exact fun e m1 _ _ _ _ _ H => (xF_0 H).elim
        | succ N ih2 =>
          intro e m1 hN he hf ht hte H
          have hr1 := frF_r hf hr
          have hX1 := frF_X hC8 hf hX
          have fin : ∀ v, e < C → isM C D e L v → v ≤ 1000000 → xF 89 (xw d) P N 51 [(3, .int (nI e)), (2, .int (nI L)), (0, .ref 63), (1, .int (nI ch))] [.int (nI v), .int (nI (8 * L + e)), .ref 82] m1 → ∃ rv m', P rv m' ∧ rv = none ∧ frF m m' ∧ ∀ left a, left < 256 → subS9 left ch → a < C → tbC m' C D left a := by
            intro v he2 hv hv6 H
            have hr := hr1
            have Hob := f_iast H k89_51 (c := 2048) (by decide)
            clear H
            obtain ⟨hb51, H⟩ := Hob
            replace H := f_iinc H k89_52 rfl (l2 := [(3, .int (nI e + 1)), (2, .int (nI L)), (0, .ref 63), (1, .int (nI ch))]) rfl
            replace H := f_goto H k89_55 (t := 19) (by decide)
            rw [nI_s, nI_clamp (by omega)] at H
            refine ih2 (e + 1) _ (by omega) he2 (frF_m hf) (fun left a h1 h2 h3 => tbC_f (ht left a h1 h2 h3) (by omega)) (fun a h1 => ?_) H
            by_cases c : a = e
            · rw [c]
              exact ⟨v, hv, mI_at⟩
            · exact tbC_f (hte a (by omega)) (by omega)
          have hr := hr1
          replace H := f1_iload_n H k89_19 rfl
          replace H := f_aload_n H k89_20 rfl
          replace H := f_gi H k89_21 (ci := 10) (f := 3) (by decide +kernel) (by decide)
          rw [hX1.1] at H
          have Hbr := f_icmp_ge H k89_24 (t := 58) (by decide)
          clear H
          rcases Hbr with ⟨c0, H⟩ | ⟨c0, H⟩
          · rw [nxle (by omega) (by omega)] at c0
            replace H := f_ext H (l' := [(2, .int (nI L)), (0, .ref 63), (1, .int (nI ch)), (3, .int (nI e))]) (lE_cons rfl (lE_cons rfl (lE_cons rfl (lE_cons rfl (lE_nil))))) rfl rfl
            refine nxt N _ m1 (by omega) hL2 hf (fun left a h1 h2 h3 => ?_) H
            by_cases c : left = L
            · rw [c]
              exact hte a (by omega)
            · exact ht left a (by omega) h2 h3
          · rw [nxle (by omega) (by omega)] at c0
            replace H := f_aload_n H k89_27 rfl
            replace H := f_gr H k89_28 (ci := 10) (f := 2) (x := 82) (by decide +kernel) (by decide) (hr 63 2 82 rfl)
            replace H := f_iload_n H k89_31 rfl
            replace H := f_bipush H k89_32 (v := 8) (by decide)
            replace H := f_imul H k89_34
            replace H := f_iload_n H k89_35 rfl
            replace H := f_iadd H k89_36
            rw [show (8 : Int32) = nI 8 from rfl, nI_mul, r_ad, Nat.mul_comm L 8] at H
            replace H := f_iload_n H k89_37 rfl
            by_cases z : L = 0
            · replace H := f_if_ne_f H k89_38 (by rw [z]; rfl)
              replace H := f_iconst H k89_41 (v := 0) (by decide)
              replace H := f_goto H k89_42 (t := 51) (by decide)
              exact fin 0 (by omega) (by rw [z]; exact isM_0) (by decide) H
            · replace H := f_if_ne_t H k89_38 (by rw [show (0 : Int32) = nI 0 from rfl, nI_inj (by omega) (by omega)]; exact z) (t := 45) (by decide)
              replace H := f_aload_n H k89_45 rfl
              replace H := f_iload_n H k89_46 rfl
              replace H := f_iload_n H k89_47 rfl
              obtain ⟨rv, m5, ⟨⟨v, rfl, hv⟩, e3⟩, h9_48⟩ := f_inv H k89_48 (by decide +kernel) (as := [.int _, .int _]) (b := 63) (r := [.int _, .ref 82]) (by rfl) (c_fewest hr hC8 hX1 hXb h16 (by omega) (by omega) z (fun c hc hb => ht (rmB L c) c (rmB_dn hb) (fun i hi => hsub i (rmB_in hi).1) hc))
              replace H := h9_48
              rw [← e3] at H
              clear e3
              exact fin v (by omega) hv hv.1 H
      have hr := frF_r hf hr
      replace H := f1_iload_n H k89_2 rfl
      replace H := f_sipush H k89_3 (v := 256) (by decide)
      rw [e256] at H
      have Hbr := f_icmp_ge H k89_6 (t := 64) (by decide)
      clear H
      rcases Hbr with ⟨c0, H⟩ | ⟨c0, H⟩
      · rw [nxle (by omega) (by omega)] at c0
        replace H := f_ret H k89_64
        exact ⟨_, _, H, rfl, hf, fun left a h1 h2 h3 => ht left a (by omega) h2 h3⟩
      · rw [nxle (by omega) (by omega)] at c0
        replace H := f_iload_n H k89_9 rfl
        replace H := f_iload_n H k89_10 rfl
        replace H := f_iconst H k89_11 (v := -1) (by decide)
        replace H := f_ixor H k89_12
        replace H := f_iand H k89_13
        by_cases q : subS9 L ch
        · replace H := f_if_ne_f H k89_14 ((sub_b (by omega)).mpr q)
          replace H := f_iconst H k89_17 (v := 0) (by decide)
          replace H := f_istore_n H k89_18 (l2 := [(3, .int 0), (2, .int (nI L)), (0, .ref 63), (1, .int (nI ch))]) rfl
          replace H := f_ext H (l' := [(3, .int (nI 0)), (2, .int (nI L)), (0, .ref 63), (1, .int (nI ch))]) (lE_cons rfl (lE_cons rfl (lE_cons rfl (lE_cons rfl (lE_nil))))) rfl rfl
          exact inn (by omega) q _ 0 m1 (Nat.le_refl _) (Nat.zero_le _) hf ht (fun a h => absurd h (Nat.not_lt_zero a)) H
        · replace H := f_if_ne_t H k89_14 (fun w9 => q ((sub_b (by omega)).mp w9)) (t := 58) (by decide)
          refine nxt _ v3 m1 (Nat.le_refl _) (by omega) hf (fun left a h1 h2 h3 => ?_) H
          by_cases c : left = L
          · rw [c] at h2
            exact absurd h2 q
          · exact ht left a (by omega) h2 h3
  replace H := f_iconst H k89_0 (v := 0) (by decide)
  replace H := f_istore_n H k89_1 (l2 := [(2, .int 0), (0, .ref 63), (1, .int (nI ch))]) rfl
  replace H := f_ext H (l' := [(2, .int (nI 0)), (0, .ref 63), (1, .int (nI ch)), (3, .int 0)]) (lE_cons rfl (lE_cons rfl (lE_cons rfl (lE_nil)))) rfl rfl
  exact lp _ 0 0 m (by decide) (frF_rf m) (fun left a h => absurd h (Nat.not_lt_zero left)) H
