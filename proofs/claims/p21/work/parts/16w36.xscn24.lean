theorem k83_0 : lkc 0 (kcode 83) = some (.iload_n 1) := by decide +kernel
theorem k83_1 : lkc 1 (kcode 83) = some (.ifCond .lt 15) := by decide +kernel
theorem k83_4 : lkc 4 (kcode 83) = some (.iload_n 1) := by decide +kernel
theorem k83_5 : lkc 5 (kcode 83) = some (.aload_n 0) := by decide +kernel
theorem k83_6 : lkc 6 (kcode 83) = some (.getfield 29) := by decide +kernel
theorem k83_9 : lkc 9 (kcode 83) = some (.if_icmp .ge 7) := by decide +kernel
theorem k83_12 : lkc 12 (kcode 83) = some (.iconst 1) := by decide +kernel
theorem k83_13 : lkc 13 (kcode 83) = some (.goto 4) := by decide +kernel
theorem k83_16 : lkc 16 (kcode 83) = some (.iconst 0) := by decide +kernel
theorem k83_17 : lkc 17 (kcode 83) = some (.ireturn) := by decide +kernel
theorem k84_0 : lkc 0 (kcode 84) = some (.aload_n 0) := by decide +kernel
theorem k84_1 : lkc 1 (kcode 84) = some (.iload_n 1) := by decide +kernel
theorem k84_2 : lkc 2 (kcode 84) = some (.invokevirtual 54) := by decide +kernel
theorem k84_5 : lkc 5 (kcode 84) = some (.ifCond .eq 22) := by decide +kernel
theorem k84_8 : lkc 8 (kcode 84) = some (.aload_n 0) := by decide +kernel
theorem k84_9 : lkc 9 (kcode 84) = some (.iload_n 2) := by decide +kernel
theorem k84_10 : lkc 10 (kcode 84) = some (.invokevirtual 54) := by decide +kernel
theorem k84_13 : lkc 13 (kcode 84) = some (.ifCond .eq 14) := by decide +kernel
theorem k84_16 : lkc 16 (kcode 84) = some (.aload_n 0) := by decide +kernel
theorem k84_17 : lkc 17 (kcode 84) = some (.getfield 11) := by decide +kernel
theorem k84_20 : lkc 20 (kcode 84) = some (.iload_n 1) := by decide +kernel
theorem k84_21 : lkc 21 (kcode 84) = some (.aaload) := by decide +kernel
theorem k84_22 : lkc 22 (kcode 84) = some (.iload_n 2) := by decide +kernel
theorem k84_23 : lkc 23 (kcode 84) = some (.iaload) := by decide +kernel
theorem k84_24 : lkc 24 (kcode 84) = some (.goto 4) := by decide +kernel
theorem k84_27 : lkc 27 (kcode 84) = some (.iconst (-1)) := by decide +kernel
theorem k84_28 : lkc 28 (kcode 84) = some (.ireturn) := by decide +kernel
theorem k224_0 : lkc 0 (kcode 224) = some (.iconst (-1)) := by decide +kernel
theorem k224_1 : lkc 1 (kcode 224) = some (.istore_n 3) := by decide +kernel
theorem k224_2 : lkc 2 (kcode 224) = some (.iconst 0) := by decide +kernel
theorem k224_3 : lkc 3 (kcode 224) = some (.istore 4) := by decide +kernel
theorem k224_5 : lkc 5 (kcode 224) = some (.iload 4) := by decide +kernel
theorem k224_7 : lkc 7 (kcode 224) = some (.aload_n 0) := by decide +kernel
theorem k224_8 : lkc 8 (kcode 224) = some (.getfield 283) := by decide +kernel
theorem k224_11 : lkc 11 (kcode 224) = some (.if_icmp .ge 124) := by decide +kernel
theorem k224_14 : lkc 14 (kcode 224) = some (.aload_n 0) := by decide +kernel
theorem k224_15 : lkc 15 (kcode 224) = some (.getfield 40) := by decide +kernel
theorem k224_18 : lkc 18 (kcode 224) = some (.iconst 4) := by decide +kernel
theorem k224_19 : lkc 19 (kcode 224) = some (.iload 4) := by decide +kernel
theorem k224_21 : lkc 21 (kcode 224) = some (.imul) := by decide +kernel
theorem k224_22 : lkc 22 (kcode 224) = some (.iaload) := by decide +kernel
theorem k224_23 : lkc 23 (kcode 224) = some (.iload_n 1) := by decide +kernel
theorem k224_24 : lkc 24 (kcode 224) = some (.if_icmp .ne 18) := by decide +kernel
theorem k224_27 : lkc 27 (kcode 224) = some (.aload_n 0) := by decide +kernel
theorem k224_28 : lkc 28 (kcode 224) = some (.getfield 40) := by decide +kernel
theorem k224_31 : lkc 31 (kcode 224) = some (.iconst 4) := by decide +kernel
theorem k224_32 : lkc 32 (kcode 224) = some (.iload 4) := by decide +kernel
theorem k224_34 : lkc 34 (kcode 224) = some (.imul) := by decide +kernel
theorem k224_35 : lkc 35 (kcode 224) = some (.iconst 1) := by decide +kernel
theorem k224_36 : lkc 36 (kcode 224) = some (.iadd) := by decide +kernel
theorem k224_37 : lkc 37 (kcode 224) = some (.iaload) := by decide +kernel
theorem k224_38 : lkc 38 (kcode 224) = some (.iload_n 2) := by decide +kernel
theorem k224_39 : lkc 39 (kcode 224) = some (.if_icmp .eq 31) := by decide +kernel
theorem k224_42 : lkc 42 (kcode 224) = some (.aload_n 0) := by decide +kernel
theorem k224_43 : lkc 43 (kcode 224) = some (.getfield 40) := by decide +kernel
theorem k224_46 : lkc 46 (kcode 224) = some (.iconst 4) := by decide +kernel
theorem k224_47 : lkc 47 (kcode 224) = some (.iload 4) := by decide +kernel
theorem k224_49 : lkc 49 (kcode 224) = some (.imul) := by decide +kernel
theorem k224_50 : lkc 50 (kcode 224) = some (.iaload) := by decide +kernel
theorem k224_51 : lkc 51 (kcode 224) = some (.iload_n 2) := by decide +kernel
theorem k224_52 : lkc 52 (kcode 224) = some (.if_icmp .ne 22) := by decide +kernel
theorem k224_55 : lkc 55 (kcode 224) = some (.aload_n 0) := by decide +kernel
theorem k224_56 : lkc 56 (kcode 224) = some (.getfield 40) := by decide +kernel
theorem k224_59 : lkc 59 (kcode 224) = some (.iconst 4) := by decide +kernel
theorem k224_60 : lkc 60 (kcode 224) = some (.iload 4) := by decide +kernel
theorem k224_62 : lkc 62 (kcode 224) = some (.imul) := by decide +kernel
theorem k224_63 : lkc 63 (kcode 224) = some (.iconst 1) := by decide +kernel
theorem k224_64 : lkc 64 (kcode 224) = some (.iadd) := by decide +kernel
theorem k224_65 : lkc 65 (kcode 224) = some (.iaload) := by decide +kernel
theorem k224_66 : lkc 66 (kcode 224) = some (.iload_n 1) := by decide +kernel
theorem k224_67 : lkc 67 (kcode 224) = some (.if_icmp .ne 7) := by decide +kernel
theorem k224_70 : lkc 70 (kcode 224) = some (.iconst 1) := by decide +kernel
theorem k224_71 : lkc 71 (kcode 224) = some (.goto 4) := by decide +kernel
theorem k224_74 : lkc 74 (kcode 224) = some (.iconst 0) := by decide +kernel
theorem k224_75 : lkc 75 (kcode 224) = some (.istore 5) := by decide +kernel
theorem k224_77 : lkc 77 (kcode 224) = some (.iload 5) := by decide +kernel
theorem k224_79 : lkc 79 (kcode 224) = some (.ifCond .eq 50) := by decide +kernel
theorem k224_82 : lkc 82 (kcode 224) = some (.aload_n 0) := by decide +kernel
theorem k224_83 : lkc 83 (kcode 224) = some (.getfield 58) := by decide +kernel
theorem k224_86 : lkc 86 (kcode 224) = some (.bipush 24) := by decide +kernel
theorem k224_88 : lkc 88 (kcode 224) = some (.iaload) := by decide +kernel
theorem k224_89 : lkc 89 (kcode 224) = some (.iload 4) := by decide +kernel
theorem k224_91 : lkc 91 (kcode 224) = some (.invokestatic 223) := by decide +kernel
theorem k224_94 : lkc 94 (kcode 224) = some (.ifCond .ne 35) := by decide +kernel
theorem k224_97 : lkc 97 (kcode 224) = some (.iload_n 3) := by decide +kernel
theorem k224_98 : lkc 98 (kcode 224) = some (.iconst (-1)) := by decide +kernel
theorem k224_99 : lkc 99 (kcode 224) = some (.if_icmp .eq 18) := by decide +kernel
theorem k224_102 : lkc 102 (kcode 224) = some (.aload_n 0) := by decide +kernel
theorem k224_103 : lkc 103 (kcode 224) = some (.getfield 40) := by decide +kernel
theorem k224_106 : lkc 106 (kcode 224) = some (.iconst 4) := by decide +kernel
theorem k224_107 : lkc 107 (kcode 224) = some (.iload 4) := by decide +kernel
theorem k224_109 : lkc 109 (kcode 224) = some (.imul) := by decide +kernel
theorem k224_110 : lkc 110 (kcode 224) = some (.iconst 2) := by decide +kernel
theorem k224_111 : lkc 111 (kcode 224) = some (.iadd) := by decide +kernel
theorem k224_112 : lkc 112 (kcode 224) = some (.iaload) := by decide +kernel
theorem k224_113 : lkc 113 (kcode 224) = some (.iload_n 3) := by decide +kernel
theorem k224_114 : lkc 114 (kcode 224) = some (.if_icmp .ge 15) := by decide +kernel
theorem k224_117 : lkc 117 (kcode 224) = some (.aload_n 0) := by decide +kernel
theorem k224_118 : lkc 118 (kcode 224) = some (.getfield 40) := by decide +kernel
theorem k224_121 : lkc 121 (kcode 224) = some (.iconst 4) := by decide +kernel
theorem k224_122 : lkc 122 (kcode 224) = some (.iload 4) := by decide +kernel
theorem k224_124 : lkc 124 (kcode 224) = some (.imul) := by decide +kernel
theorem k224_125 : lkc 125 (kcode 224) = some (.iconst 2) := by decide +kernel
theorem k224_126 : lkc 126 (kcode 224) = some (.iadd) := by decide +kernel
theorem k224_127 : lkc 127 (kcode 224) = some (.iaload) := by decide +kernel
theorem k224_128 : lkc 128 (kcode 224) = some (.istore_n 3) := by decide +kernel
theorem k224_129 : lkc 129 (kcode 224) = some (.iinc 4 1) := by decide +kernel
theorem k224_132 : lkc 132 (kcode 224) = some (.goto (-127)) := by decide +kernel
theorem k224_135 : lkc 135 (kcode 224) = some (.iload_n 3) := by decide +kernel
theorem k224_136 : lkc 136 (kcode 224) = some (.ireturn) := by decide +kernel
/-! forward: a walk checked, both sides -/
/-- the yards of the shortest street without a wall between two (0: none), the reference's way -/
def btN (A B Y : Nat → Nat) (w a b : Nat) : Nat → Nat
  | 0 => 0
  | s + 1 => if (w.testBit s = false ∧ ((A s = a ∧ B s = b) ∨ (A s = b ∧ B s = a))) ∧ (btN A B Y w a b s = 0 ∨ Y s < btN A B Y w a b s) then Y s else btN A B Y w a b s
theorem btN_t {A B Y : Nat → Nat} {w a b s : Nat} (h : w.testBit s = false ∧ ((A s = a ∧ B s = b) ∨ (A s = b ∧ B s = a))) (h2 : btN A B Y w a b s = 0 ∨ Y s < btN A B Y w a b s) : btN A B Y w a b (s + 1) = Y s := if_pos ⟨h, h2⟩
theorem btN_f {A B Y : Nat → Nat} {w a b s : Nat} (h : ¬ ((w.testBit s = false ∧ ((A s = a ∧ B s = b) ∨ (A s = b ∧ B s = a))) ∧ (btN A B Y w a b s = 0 ∨ Y s < btN A B Y w a b s))) : btN A B Y w a b (s + 1) = btN A B Y w a b s := if_neg h
theorem btN_X {A B Y : Nat → Nat} {w S a b : Nat} (hS : ∀ s, s < S → A s ≠ B s ∧ 1 ≤ Y s ∧ Y s ≤ 40) : ∀ s, s ≤ S → btN A B Y w a b s = (wsX A B Y w s).1 a b := by
  intro s
  induction s with
  | zero => exact fun _ => rfl
  | succ s ih =>
    intro hs
    have ih := ih (by omega)
    have hsy := fun u v => (stR_ok (w := w) hS s (by omega) u v).1
    have hne := (hS s (by omega)).1
    cases hw : w.testBit s with
    | true =>
      rw [wsX_t hw, btN_f (fun q => by rw [hw] at q; cases q.1.1)]
      exact ih
    | false =>
      by_cases hm : (A s = a ∧ B s = b) ∨ (A s = b ∧ B s = a)
      · have e : (wsX A B Y w s).1 (A s) (B s) = btN A B Y w a b s := by
          rw [ih]
          rcases hm with ⟨rfl, rfl⟩ | ⟨rfl, rfl⟩
          · rfl
          · exact hsy _ _
        by_cases c : btN A B Y w a b s = 0 ∨ Y s < btN A B Y w a b s
        · rw [btN_t ⟨hw, hm⟩ c, wsX_y hw (by rw [e]; exact c)]
          show Y s = mst (mst (wsX A B Y w s).1 (A s) (B s) (Y s)) (B s) (A s) (Y s) a b
          rcases hm with ⟨rfl, rfl⟩ | ⟨rfl, rfl⟩
          · rw [mst_ne (fun q => hne q.1), mst_at]
          · rw [mst_at]
        · rw [btN_f (fun q => c q.2), wsX_n hw (by rw [e]; exact c)]
          exact ih
      · rw [btN_f (fun q => hm q.1.2)]
        by_cases c : (wsX A B Y w s).1 (A s) (B s) = 0 ∨ Y s < (wsX A B Y w s).1 (A s) (B s)
        · rw [wsX_y hw c]
          show btN A B Y w a b s = mst (mst (wsX A B Y w s).1 (A s) (B s) (Y s)) (B s) (A s) (Y s) a b
          rw [mst_ne (fun q => hm (Or.inr ⟨q.2.symm, q.1.symm⟩)), mst_ne (fun q => hm (Or.inl ⟨q.1.symm, q.2.symm⟩))]
          exact ih
        · rw [wsX_n hw c]
          exact ih
theorem wsX_40 {A B Y : Nat → Nat} {w S a b : Nat} (hS : ∀ s, s < S → A s ≠ B s ∧ 1 ≤ Y s ∧ Y s ≤ 40) : (wsX A B Y w S).1 a b ≤ 40 := by
  rcases (stR_ok (w := w) hS S (Nat.le_refl _) a b).2 with ⟨-, x1, -⟩ | ⟨-, ⟨x1, -⟩ | ⟨x0, x1, -⟩⟩ <;> omega
theorem stp_p {t : Nat} (h : t ≠ 0) : stp t = nI t := if_neg h
theorem c_between {m : xM} {C S w a b : Nat} {A B Y : Nat → Nat} (hr : rS m) (hT : mT m C S A B Y) (hw : m.1 326 24 = nI w) (hw2 : w < 65536) (ha : a < C) (hb : b < C) : fC 224 [.ref 314, .int (nI a), .int (nI b)] m (fun rv m' => rv = some (.int (stp (btN A B Y w a b S))) ∧ m = m') := by
  refine fC_of (by decide) (fun d n P H => ?_)
  obtain ⟨t1, t2, t3, t4, t5⟩ := id hT
  have c24 : (24 : Int32).toNatClampNeg = 24 := by decide
  have lp : ∀ n e v5, e ≤ S → xF 224 (xw d) P n 5 [(4, .int (nI e)), (3, .int (stp (btN A B Y w a b e))), (5, .int v5), (0, .ref 314), (1, .int (nI a)), (2, .int (nI b))] [] m → ∃ rv m', P rv m' ∧ rv = some (.int (stp (btN A B Y w a b S))) ∧ m = m' := by
    intro n
    induction n with
    | zero => exact fun e v5 _ H => (xF_0 H).elim
    | succ n ih =>
      intro e v5 he H
      replace H := f1_iload H k224_5 rfl
      replace H := f_aload_n H k224_7 rfl
      replace H := f_gi H k224_8 (ci := 12) (f := 26) (by decide +kernel) (by decide)
      rw [t2] at H
      have Hbr := f_icmp_ge H k224_11 (t := 135) (by decide)
      clear H
      rcases Hbr with ⟨c0, H⟩ | ⟨c0, H⟩
      · rw [nxle (by omega) (by omega)] at c0
        have ee : e = S := by omega
        replace H := f_iload_n H k224_135 rfl
        replace H := f_iret H k224_136
        exact ⟨_, _, H, by rw [ee], rfl⟩
      · rw [nxle (by omega) (by omega)] at c0
        obtain ⟨s1, s2, s3, s4, s5, s6, s7, s8⟩ := t5 e (by omega)
        have hbl : btN A B Y w a b e ≤ 40 := by
          rw [btN_X (S := S) (fun s hs => ⟨(t5 s hs).2.2.2.2.2.1, (t5 s hs).2.2.2.2.2.2⟩) e (by omega)]
          exact wsX_40 (fun s hs => ⟨(t5 s (by omega)).2.2.2.2.2.1, (t5 s (by omega)).2.2.2.2.2.2⟩)
        have sk : ∀ v5, ¬ ((w.testBit e = false ∧ ((A e = a ∧ B e = b) ∨ (A e = b ∧ B e = a))) ∧ (btN A B Y w a b e = 0 ∨ Y e < btN A B Y w a b e)) → xF 224 (xw d) P n 129 [(5, .int v5), (4, .int (nI e)), (3, .int (stp (btN A B Y w a b e))), (0, .ref 314), (1, .int (nI a)), (2, .int (nI b))] [] m → ∃ rv m', P rv m' ∧ rv = some (.int (stp (btN A B Y w a b S))) ∧ m = m' := by
          intro v5 h9 H
          replace H := f_iinc H k224_129 rfl (l2 := [(4, .int (nI e + 1)), (5, .int v5), (3, .int (stp (btN A B Y w a b e))), (0, .ref 314), (1, .int (nI a)), (2, .int (nI b))]) rfl
          replace H := f_goto H k224_132 (t := 5) (by decide)
          rw [nI_s, ← btN_f h9] at H
          replace H := f_ext H (l' := [(4, .int (nI (e + 1))), (3, .int (stp (btN A B Y w a b (e + 1)))), (5, .int v5), (0, .ref 314), (1, .int (nI a)), (2, .int (nI b))]) (lE_cons rfl (lE_cons rfl (lE_cons rfl (lE_cons rfl (lE_cons rfl (lE_cons rfl (lE_nil))))))) rfl rfl
          exact ih (e + 1) _ (by omega) H
        have st : btN A B Y w a b e = 0 ∨ Y e < btN A B Y w a b e → (w.testBit e = false ∧ ((A e = a ∧ B e = b) ∨ (A e = b ∧ B e = a))) → xF 224 (xw d) P n 117 [(5, .int 1), (4, .int (nI e)), (3, .int (stp (btN A B Y w a b e))), (0, .ref 314), (1, .int (nI a)), (2, .int (nI b))] [] m → ∃ rv m', P rv m' ∧ rv = some (.int (stp (btN A B Y w a b S))) ∧ m = m' := by
          intro h8 h9 H
          replace H := f_aload_n H k224_117 rfl
          replace H := f_gr H k224_118 (ci := 12) (f := 19) (x := 320) (by decide +kernel) (by decide) (hr 314 19 320 rfl)
          replace H := f_iconst H k224_121 (v := 4) (by decide)
          replace H := f_iload H k224_122 rfl
          replace H := f_imul H k224_124
          replace H := f_iconst H k224_125 (v := 2) (by decide)
          replace H := f_iadd H k224_126
          have Hob := f_iald H k224_127 (c := 48) (by decide)
          clear H
          obtain ⟨hb127, H⟩ := Hob
          rw [show (4 : Int32) = nI 4 from rfl, nI_mul, show (2 : Int32) = nI 2 from rfl, r_ad, nI_clamp (by omega), s3, ← stp_p (show Y e ≠ 0 by omega), ← btN_t h9 h8] at H
          replace H := f_istore_n H k224_128 (l2 := [(3, .int (stp (btN A B Y w a b (e + 1)))), (5, .int 1), (4, .int (nI e)), (0, .ref 314), (1, .int (nI a)), (2, .int (nI b))]) rfl
          replace H := f_iinc H k224_129 rfl (l2 := [(4, .int (nI e + 1)), (3, .int (stp (btN A B Y w a b (e + 1)))), (5, .int 1), (0, .ref 314), (1, .int (nI a)), (2, .int (nI b))]) rfl
          replace H := f_goto H k224_132 (t := 5) (by decide)
          rw [nI_s] at H
          exact ih (e + 1) _ (by omega) H
        have no : ∀ v5, ¬ ((A e = a ∧ B e = b) ∨ (A e = b ∧ B e = a)) → xF 224 (xw d) P n 74 [(4, .int (nI e)), (3, .int (stp (btN A B Y w a b e))), (5, .int v5), (0, .ref 314), (1, .int (nI a)), (2, .int (nI b))] [] m → ∃ rv m', P rv m' ∧ rv = some (.int (stp (btN A B Y w a b S))) ∧ m = m' := by
          intro v5 h9 H
          replace H := f_iconst H k224_74 (v := 0) (by decide)
          replace H := f_istore H k224_75 (l2 := [(5, .int 0), (4, .int (nI e)), (3, .int (stp (btN A B Y w a b e))), (0, .ref 314), (1, .int (nI a)), (2, .int (nI b))]) rfl
          replace H := f_iload H k224_77 rfl
          replace H := f_if_eq_t H k224_79 rfl (t := 129) (by decide)
          exact sk _ (fun q => h9 q.1.2) H
        have yes : ∀ v5, ((A e = a ∧ B e = b) ∨ (A e = b ∧ B e = a)) → xF 224 (xw d) P n 70 [(4, .int (nI e)), (3, .int (stp (btN A B Y w a b e))), (5, .int v5), (0, .ref 314), (1, .int (nI a)), (2, .int (nI b))] [] m → ∃ rv m', P rv m' ∧ rv = some (.int (stp (btN A B Y w a b S))) ∧ m = m' := by
          intro v5 h9 H
          replace H := f_iconst H k224_70 (v := 1) (by decide)
          replace H := f_goto H k224_71 (t := 75) (by decide)
          replace H := f_istore H k224_75 (l2 := [(5, .int 1), (4, .int (nI e)), (3, .int (stp (btN A B Y w a b e))), (0, .ref 314), (1, .int (nI a)), (2, .int (nI b))]) rfl
          replace H := f_iload H k224_77 rfl
          replace H := f_if_eq_f H k224_79 (by decide)
          replace H := f_aload_n H k224_82 rfl
          replace H := f_gr H k224_83 (ci := 12) (f := 32) (x := 326) (by decide +kernel) (by decide) (hr 314 32 326 rfl)
          replace H := f_bipush H k224_86 (v := 24) (by decide)
          have Hob := f_iald H k224_88 (c := 208) (by decide)
          clear H
          obtain ⟨hb88, H⟩ := Hob
          replace H := f_iload H k224_89 rfl
          rw [c24, hw] at H
          obtain ⟨rv, m3, ⟨rfl, e3⟩, h9_91⟩ := f_ins H k224_91 (by decide +kernel) (as := [.int _, .int _]) (r := []) (by rfl) (c_hasN (k := w) (j := e) (by omega) (by omega))
          replace H := h9_91
          rw [← e3] at H
          clear e3
          cases hb : w.testBit e with
          | true =>
            rw [hb] at H
            replace H := f_if_ne_t H k224_94 (by decide) (t := 129) (by decide)
            exact sk _ (fun q => by rw [hb] at q; cases q.1.1) H
          | false =>
            rw [hb] at H
            replace H := f_if_ne_f H k224_94 rfl
            replace H := f_iload_n H k224_97 rfl
            replace H := f_iconst H k224_98 (v := -1) (by decide)
            by_cases hz : btN A B Y w a b e = 0
            · replace H := f_icmp_eq_t H k224_99 (by rw [hz]; rfl) (t := 117) (by decide)
              exact st (Or.inl hz) ⟨hb, h9⟩ H
            · replace H := f_icmp_eq_f H k224_99 (by rw [stp_p hz]; exact nI_ne1 (by omega))
              replace H := f_aload_n H k224_102 rfl
              replace H := f_gr H k224_103 (ci := 12) (f := 19) (x := 320) (by decide +kernel) (by decide) (hr 314 19 320 rfl)
              replace H := f_iconst H k224_106 (v := 4) (by decide)
              replace H := f_iload H k224_107 rfl
              replace H := f_imul H k224_109
              replace H := f_iconst H k224_110 (v := 2) (by decide)
              replace H := f_iadd H k224_111
              have Hob := f_iald H k224_112 (c := 48) (by decide)
              clear H
              obtain ⟨hb112, H⟩ := Hob
              replace H := f_iload_n H k224_113 rfl
              rw [show (4 : Int32) = nI 4 from rfl, nI_mul, show (2 : Int32) = nI 2 from rfl, r_ad, nI_clamp (by omega), s3, stp_p hz] at H
              have Hbr := f_icmp_ge H k224_114 (t := 129) (by decide)
              clear H
              rcases Hbr with ⟨c5, H⟩ | ⟨c5, H⟩
              · rw [nxle (by omega) (by omega)] at c5
                rw [← stp_p hz] at H
                exact sk _ (fun q => by rcases q.2 with z | z <;> omega) H
              · rw [nxle (by omega) (by omega)] at c5
                rw [← stp_p hz] at H
                exact st (Or.inr (by omega)) ⟨hb, h9⟩ H
        replace H := f_aload_n H k224_14 rfl
        replace H := f_gr H k224_15 (ci := 12) (f := 19) (x := 320) (by decide +kernel) (by decide) (hr 314 19 320 rfl)
        replace H := f_iconst H k224_18 (v := 4) (by decide)
        replace H := f_iload H k224_19 rfl
        replace H := f_imul H k224_21
        have Hob := f_iald H k224_22 (c := 48) (by decide)
        clear H
        obtain ⟨hb22, H⟩ := Hob
        replace H := f_iload_n H k224_23 rfl
        rw [show (4 : Int32) = nI 4 from rfl, nI_mul, nI_clamp (by omega), s1] at H
        have snd : ∀ v5, ¬ (A e = a ∧ B e = b) → xF 224 (xw d) P n 42 [(4, .int (nI e)), (3, .int (stp (btN A B Y w a b e))), (5, .int v5), (0, .ref 314), (1, .int (nI a)), (2, .int (nI b))] [] m → ∃ rv m', P rv m' ∧ rv = some (.int (stp (btN A B Y w a b S))) ∧ m = m' := by
          intro v5 h9 H
          replace H := f_aload_n H k224_42 rfl
          replace H := f_gr H k224_43 (ci := 12) (f := 19) (x := 320) (by decide +kernel) (by decide) (hr 314 19 320 rfl)
          replace H := f_iconst H k224_46 (v := 4) (by decide)
          replace H := f_iload H k224_47 rfl
          replace H := f_imul H k224_49
          have Hob := f_iald H k224_50 (c := 48) (by decide)
          clear H
          obtain ⟨hb50, H⟩ := Hob
          replace H := f_iload_n H k224_51 rfl
          rw [show (4 : Int32) = nI 4 from rfl, nI_mul, nI_clamp (by omega), s1] at H
          have Hbr := f_icmp_ne H k224_52 (t := 74) (by decide)
          clear H
          rcases Hbr with ⟨c6, H⟩ | ⟨c6, H⟩
          · rw [nI_inj (by omega) (by omega)] at c6
            exact no _ (fun q => by rcases q with q | q; exact h9 q; exact c6 q.1) H
          · rw [nI_inj (by omega) (by omega)] at c6
            replace H := f_aload_n H k224_55 rfl
            replace H := f_gr H k224_56 (ci := 12) (f := 19) (x := 320) (by decide +kernel) (by decide) (hr 314 19 320 rfl)
            replace H := f_iconst H k224_59 (v := 4) (by decide)
            replace H := f_iload H k224_60 rfl
            replace H := f_imul H k224_62
            replace H := f_iconst H k224_63 (v := 1) (by decide)
            replace H := f_iadd H k224_64
            have Hob := f_iald H k224_65 (c := 48) (by decide)
            clear H
            obtain ⟨hb65, H⟩ := Hob
            replace H := f_iload_n H k224_66 rfl
            rw [show (4 : Int32) = nI 4 from rfl, nI_mul, nI_s, nI_clamp (by omega), s2] at H
            have Hbr := f_icmp_ne H k224_67 (t := 74) (by decide)
            clear H
            rcases Hbr with ⟨c7, H⟩ | ⟨c7, H⟩
            · rw [nI_inj (by omega) (by omega)] at c7
              exact no _ (fun q => by rcases q with q | q; exact h9 q; exact c7 q.2) H
            · rw [nI_inj (by omega) (by omega)] at c7
              exact yes _ (Or.inr ⟨c6, c7⟩) H
        have Hbr := f_icmp_ne H k224_24 (t := 42) (by decide)
        clear H
        rcases Hbr with ⟨c6, H⟩ | ⟨c6, H⟩
        · rw [nI_inj (by omega) (by omega)] at c6
          exact snd _ (fun q => c6 q.1) H
        · rw [nI_inj (by omega) (by omega)] at c6
          replace H := f_aload_n H k224_27 rfl
          replace H := f_gr H k224_28 (ci := 12) (f := 19) (x := 320) (by decide +kernel) (by decide) (hr 314 19 320 rfl)
          replace H := f_iconst H k224_31 (v := 4) (by decide)
          replace H := f_iload H k224_32 rfl
          replace H := f_imul H k224_34
          replace H := f_iconst H k224_35 (v := 1) (by decide)
          replace H := f_iadd H k224_36
          have Hob := f_iald H k224_37 (c := 48) (by decide)
          clear H
          obtain ⟨hb37, H⟩ := Hob
          replace H := f_iload_n H k224_38 rfl
          rw [show (4 : Int32) = nI 4 from rfl, nI_mul, nI_s, nI_clamp (by omega), s2] at H
          have Hbr := f_icmp_eq H k224_39 (t := 70) (by decide)
          clear H
          rcases Hbr with ⟨c7, H⟩ | ⟨c7, H⟩
          · rw [nI_inj (by omega) (by omega)] at c7
            exact yes _ (Or.inl ⟨c6, c7⟩) H
          · rw [nI_inj (by omega) (by omega)] at c7
            exact snd _ (fun q => c7 q.2) H
  replace H := f_iconst H k224_0 (v := -1) (by decide)
  replace H := f_istore_n H k224_1 (l2 := [(3, .int (-1)), (0, .ref 314), (1, .int (nI a)), (2, .int (nI b))]) rfl
  replace H := f_iconst H k224_2 (v := 0) (by decide)
  replace H := f_istore H k224_3 (l2 := [(4, .int 0), (3, .int (-1)), (0, .ref 314), (1, .int (nI a)), (2, .int (nI b))]) rfl
  replace H := f_ext H (l' := [(4, .int (nI 0)), (3, .int (stp (btN A B Y w a b 0))), (5, .int 0), (0, .ref 314), (1, .int (nI a)), (2, .int (nI b))]) (lE_cons rfl (lE_cons rfl (lE_cons rfl (lE_cons rfl (lE_cons rfl (lE_nil)))))) rfl rfl
  exact lp _ 0 _ (Nat.zero_le _) H
theorem c_isMeas {m : xM} {C : Nat} {z : Int32} (hr : rS m) (hC : m.1 63 3 = nI C) (hC9 : C ≤ 1000) : fC 83 [.ref 63, .int z] m (fun rv m' => ((∃ e, e < C ∧ z = nI e ∧ rv = some (.int 1)) ∨ ((∀ e, e < C → z ≠ nI e) ∧ rv = some (.int 0))) ∧ m = m') := by
  refine fC_of (by decide) (fun d n P H => ?_)
  have neg : ∀ n, (∀ e, e < C → z ≠ nI e) → xF 83 (xw d) P n 16 [(0, .ref 63), (1, .int z)] [] m → ∃ rv m', P rv m' ∧ ((∃ e, e < C ∧ z = nI e ∧ rv = some (.int 1)) ∨ ((∀ e, e < C → z ≠ nI e) ∧ rv = some (.int 0))) ∧ m = m' := by
    intro n h H
    replace H := f_iconst H k83_16 (v := 0) (by decide)
    replace H := f_iret H k83_17
    exact ⟨_, _, H, Or.inr ⟨h, rfl⟩, rfl⟩
  replace H := f_iload_n H k83_0 rfl
  have Hbr := f_if_lt H k83_1 (t := 16) (by decide)
  clear H
  rcases Hbr with ⟨c0, H⟩ | ⟨c0, H⟩
  · exact neg _ (fun e he q => by rw [q, show (0 : Int32) = nI 0 from rfl, nxlt (by omega) (by omega)] at c0; omega) H
  · replace H := f_iload_n H k83_4 rfl
    replace H := f_aload_n H k83_5 rfl
    replace H := f_gi H k83_6 (ci := 10) (f := 3) (by decide +kernel) (by decide)
    rw [hC] at H
    have Hbr := f_icmp_ge H k83_9 (t := 16) (by decide)
    clear H
    rcases Hbr with ⟨c1, H⟩ | ⟨c1, H⟩
    · exact neg _ (fun e he q => by rw [q, nxle (by omega) (by omega)] at c1; omega) H
    · replace H := f_iconst H k83_12 (v := 1) (by decide)
      replace H := f_goto H k83_13 (t := 17) (by decide)
      replace H := f_iret H k83_17
      obtain ⟨e, he, rfl⟩ := z_nI (z := z) (K := C) hC9 c0 (by
        rw [Int32.le_iff_toInt_le] at c1
        rw [Int32.lt_iff_toInt_lt]
        omega)
      exact ⟨_, _, H, Or.inl ⟨e, he, rfl, rfl⟩, rfl⟩
theorem c_stepYards {m : xM} {C a : Nat} {T c : Mt} {u : Int32} (hr : rS m) (hC8 : C ≤ 8) (hX : mX m C T c) (ha : a < C) : fC 84 [.ref 63, .int (nI a), .int u] m (fun rv m' => ((∃ b, b < C ∧ u = nI b ∧ rv = some (.int (stp (T a b)))) ∨ ((∀ b, b < C → u ≠ nI b) ∧ rv = some (.int (-1)))) ∧ m = m') := by
  refine fC_of (by decide) (fun d n P H => ?_)
  replace H := f_aload_n H k84_0 rfl
  replace H := f_iload_n H k84_1 rfl
  obtain ⟨rv, m3, ⟨ho1, e3⟩, h9_2⟩ := f_inv H k84_2 (by decide +kernel) (as := [.int _]) (b := 63) (r := []) (by rfl) (c_isMeas hr hX.1 (by omega))
  replace H := h9_2
  rw [← e3] at H
  clear e3
  rcases ho1 with ⟨a', ha', hza, rfl⟩ | ⟨h0, rfl⟩
  · replace H := f_if_eq_f H k84_5 (by decide)
    replace H := f_aload_n H k84_8 rfl
    replace H := f_iload_n H k84_9 rfl
    obtain ⟨rv, m4, ⟨ho2, e3⟩, h9_10⟩ := f_inv H k84_10 (by decide +kernel) (as := [.int _]) (b := 63) (r := []) (by rfl) (c_isMeas hr hX.1 (by omega))
    replace H := h9_10
    rw [← e3] at H
    clear e3
    rcases ho2 with ⟨b, hb, hub, rfl⟩ | ⟨h1, rfl⟩
    · subst hub
      have y1 := (hX.2 a b ha hb).1
      obtain ⟨Uy, Ut⟩ := rx_64 ⟨a, by omega⟩
      replace Uy : lay (65 + a) = (0, 0, 8) := Uy
      replace Ut : tR 64 a = some (65 + a) := Ut
      obtain ⟨U, hU⟩ : ∃ R, R = 65 + a := ⟨_, rfl⟩
      rw [← hU] at Uy Ut y1
      replace H := f_if_eq_f H k84_13 (by decide)
      replace H := f_aload_n H k84_16 rfl
      replace H := f_gr H k84_17 (ci := 10) (f := 0) (x := 64) (by decide +kernel) (by decide) (hr 63 0 64 rfl)
      replace H := f_iload_n H k84_20 rfl
      have Hob := f_aald H k84_21 (x := 6) (c := 8) (v := .ref U) (by decide) ((by rw [nI_clamp (by omega), hr 64 a U Ut]; rfl))
      clear H
      obtain ⟨hb21, H⟩ := Hob
      replace H := f_iload_n H k84_22 rfl
      have Hob := f_iald H k84_23 (c := 8) Uy
      clear H
      obtain ⟨hb23, H⟩ := Hob
      replace H := f_goto H k84_24 (t := 28) (by decide)
      rw [nI_clamp (by omega), y1] at H
      replace H := f_iret H k84_28
      exact ⟨_, _, H, Or.inl ⟨b, hb, rfl, rfl⟩, rfl⟩
    · replace H := f_if_eq_t H k84_13 rfl (t := 27) (by decide)
      replace H := f_iconst H k84_27 (v := -1) (by decide)
      replace H := f_iret H k84_28
      exact ⟨_, _, H, Or.inr ⟨h1, rfl⟩, rfl⟩
  · exact absurd rfl (h0 a ha)
