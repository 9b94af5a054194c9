theorem k227_0 : lkc 0 (kcode 227) = some (.iload_n 1) := by decide +kernel
theorem k227_1 : lkc 1 (kcode 227) = some (.iload_n 2) := by decide +kernel
theorem k227_2 : lkc 2 (kcode 227) = some (.if_icmp .ne 103) := by decide +kernel
theorem k227_5 : lkc 5 (kcode 227) = some (.aload_n 0) := by decide +kernel
theorem k227_6 : lkc 6 (kcode 227) = some (.getfield 400) := by decide +kernel
theorem k227_9 : lkc 9 (kcode 227) = some (.iconst (-1)) := by decide +kernel
theorem k227_10 : lkc 10 (kcode 227) = some (.if_icmp .eq 12) := by decide +kernel
theorem k227_13 : lkc 13 (kcode 227) = some (.iload 4) := by decide +kernel
theorem k227_15 : lkc 15 (kcode 227) = some (.aload_n 0) := by decide +kernel
theorem k227_16 : lkc 16 (kcode 227) = some (.getfield 403) := by decide +kernel
theorem k227_19 : lkc 19 (kcode 227) = some (.if_icmp .ge 7) := by decide +kernel
theorem k227_22 : lkc 22 (kcode 227) = some (.iconst 1) := by decide +kernel
theorem k227_23 : lkc 23 (kcode 227) = some (.goto 4) := by decide +kernel
theorem k227_26 : lkc 26 (kcode 227) = some (.iconst 0) := by decide +kernel
theorem k227_27 : lkc 27 (kcode 227) = some (.istore 7) := by decide +kernel
theorem k227_29 : lkc 29 (kcode 227) = some (.iload 4) := by decide +kernel
theorem k227_31 : lkc 31 (kcode 227) = some (.aload_n 0) := by decide +kernel
theorem k227_32 : lkc 32 (kcode 227) = some (.getfield 403) := by decide +kernel
theorem k227_35 : lkc 35 (kcode 227) = some (.if_icmp .ne 45) := by decide +kernel
theorem k227_38 : lkc 38 (kcode 227) = some (.aload_n 0) := by decide +kernel
theorem k227_39 : lkc 39 (kcode 227) = some (.getfield 400) := by decide +kernel
theorem k227_42 : lkc 42 (kcode 227) = some (.iconst (-1)) := by decide +kernel
theorem k227_43 : lkc 43 (kcode 227) = some (.if_icmp .eq 30) := by decide +kernel
theorem k227_46 : lkc 46 (kcode 227) = some (.iload 5) := by decide +kernel
theorem k227_48 : lkc 48 (kcode 227) = some (.aload_n 0) := by decide +kernel
theorem k227_49 : lkc 49 (kcode 227) = some (.getfield 406) := by decide +kernel
theorem k227_52 : lkc 52 (kcode 227) = some (.if_icmp .lt 21) := by decide +kernel
theorem k227_55 : lkc 55 (kcode 227) = some (.iload 5) := by decide +kernel
theorem k227_57 : lkc 57 (kcode 227) = some (.aload_n 0) := by decide +kernel
theorem k227_58 : lkc 58 (kcode 227) = some (.getfield 406) := by decide +kernel
theorem k227_61 : lkc 61 (kcode 227) = some (.if_icmp .ne 16) := by decide +kernel
theorem k227_64 : lkc 64 (kcode 227) = some (.iload 6) := by decide +kernel
theorem k227_66 : lkc 66 (kcode 227) = some (.aload_n 0) := by decide +kernel
theorem k227_67 : lkc 67 (kcode 227) = some (.getfield 400) := by decide +kernel
theorem k227_70 : lkc 70 (kcode 227) = some (.if_icmp .ge 7) := by decide +kernel
theorem k227_73 : lkc 73 (kcode 227) = some (.iconst 1) := by decide +kernel
theorem k227_74 : lkc 74 (kcode 227) = some (.goto 4) := by decide +kernel
theorem k227_77 : lkc 77 (kcode 227) = some (.iconst 0) := by decide +kernel
theorem k227_78 : lkc 78 (kcode 227) = some (.istore 7) := by decide +kernel
theorem k227_80 : lkc 80 (kcode 227) = some (.iload 7) := by decide +kernel
theorem k227_82 : lkc 82 (kcode 227) = some (.ifCond .ne 4) := by decide +kernel
theorem k227_85 : lkc 85 (kcode 227) = some (.return_) := by decide +kernel
theorem k227_86 : lkc 86 (kcode 227) = some (.aload_n 0) := by decide +kernel
theorem k227_87 : lkc 87 (kcode 227) = some (.iload 4) := by decide +kernel
theorem k227_89 : lkc 89 (kcode 227) = some (.putfield 403) := by decide +kernel
theorem k227_92 : lkc 92 (kcode 227) = some (.aload_n 0) := by decide +kernel
theorem k227_93 : lkc 93 (kcode 227) = some (.iload 5) := by decide +kernel
theorem k227_95 : lkc 95 (kcode 227) = some (.putfield 406) := by decide +kernel
theorem k227_98 : lkc 98 (kcode 227) = some (.aload_n 0) := by decide +kernel
theorem k227_99 : lkc 99 (kcode 227) = some (.iload 6) := by decide +kernel
theorem k227_101 : lkc 101 (kcode 227) = some (.putfield 400) := by decide +kernel
theorem k227_104 : lkc 104 (kcode 227) = some (.return_) := by decide +kernel
theorem k227_105 : lkc 105 (kcode 227) = some (.iconst 0) := by decide +kernel
theorem k227_106 : lkc 106 (kcode 227) = some (.istore 7) := by decide +kernel
theorem k227_108 : lkc 108 (kcode 227) = some (.iload 7) := by decide +kernel
theorem k227_110 : lkc 110 (kcode 227) = some (.aload_n 0) := by decide +kernel
theorem k227_111 : lkc 111 (kcode 227) = some (.getfield 280) := by decide +kernel
theorem k227_114 : lkc 114 (kcode 227) = some (.if_icmp .ge 85) := by decide +kernel
theorem k227_117 : lkc 117 (kcode 227) = some (.iload_n 3) := by decide +kernel
theorem k227_118 : lkc 118 (kcode 227) = some (.iload 7) := by decide +kernel
theorem k227_120 : lkc 120 (kcode 227) = some (.invokestatic 223) := by decide +kernel
theorem k227_123 : lkc 123 (kcode 227) = some (.ifCond .eq 7) := by decide +kernel
theorem k227_126 : lkc 126 (kcode 227) = some (.iconst (-1)) := by decide +kernel
theorem k227_127 : lkc 127 (kcode 227) = some (.goto 10) := by decide +kernel
theorem k227_130 : lkc 130 (kcode 227) = some (.aload_n 0) := by decide +kernel
theorem k227_131 : lkc 131 (kcode 227) = some (.iload_n 1) := by decide +kernel
theorem k227_132 : lkc 132 (kcode 227) = some (.iload 7) := by decide +kernel
theorem k227_134 : lkc 134 (kcode 227) = some (.invokevirtual 397) := by decide +kernel
theorem k227_137 : lkc 137 (kcode 227) = some (.istore 8) := by decide +kernel
theorem k227_139 : lkc 139 (kcode 227) = some (.iload 8) := by decide +kernel
theorem k227_141 : lkc 141 (kcode 227) = some (.iconst (-1)) := by decide +kernel
theorem k227_142 : lkc 142 (kcode 227) = some (.if_icmp .eq 51) := by decide +kernel
theorem k227_145 : lkc 145 (kcode 227) = some (.iload 4) := by decide +kernel
theorem k227_147 : lkc 147 (kcode 227) = some (.iload 8) := by decide +kernel
theorem k227_149 : lkc 149 (kcode 227) = some (.iadd) := by decide +kernel
theorem k227_150 : lkc 150 (kcode 227) = some (.aload_n 0) := by decide +kernel
theorem k227_151 : lkc 151 (kcode 227) = some (.aload_n 0) := by decide +kernel
theorem k227_152 : lkc 152 (kcode 227) = some (.getfield 409) := by decide +kernel
theorem k227_155 : lkc 155 (kcode 227) = some (.iload 7) := by decide +kernel
theorem k227_157 : lkc 157 (kcode 227) = some (.invokevirtual 304) := by decide +kernel
theorem k227_160 : lkc 160 (kcode 227) = some (.if_icmp .gt 33) := by decide +kernel
theorem k227_163 : lkc 163 (kcode 227) = some (.aload_n 0) := by decide +kernel
theorem k227_164 : lkc 164 (kcode 227) = some (.iload 7) := by decide +kernel
theorem k227_166 : lkc 166 (kcode 227) = some (.iload_n 2) := by decide +kernel
theorem k227_167 : lkc 167 (kcode 227) = some (.iload_n 3) := by decide +kernel
theorem k227_168 : lkc 168 (kcode 227) = some (.iconst 1) := by decide +kernel
theorem k227_169 : lkc 169 (kcode 227) = some (.iload 7) := by decide +kernel
theorem k227_171 : lkc 171 (kcode 227) = some (.ishl) := by decide +kernel
theorem k227_172 : lkc 172 (kcode 227) = some (.ior) := by decide +kernel
theorem k227_173 : lkc 173 (kcode 227) = some (.iload 4) := by decide +kernel
theorem k227_175 : lkc 175 (kcode 227) = some (.iload 8) := by decide +kernel
theorem k227_177 : lkc 177 (kcode 227) = some (.iadd) := by decide +kernel
theorem k227_178 : lkc 178 (kcode 227) = some (.iload 5) := by decide +kernel
theorem k227_180 : lkc 180 (kcode 227) = some (.iconst 1) := by decide +kernel
theorem k227_181 : lkc 181 (kcode 227) = some (.iadd) := by decide +kernel
theorem k227_182 : lkc 182 (kcode 227) = some (.bipush 10) := by decide +kernel
theorem k227_184 : lkc 184 (kcode 227) = some (.iload 6) := by decide +kernel
theorem k227_186 : lkc 186 (kcode 227) = some (.imul) := by decide +kernel
theorem k227_187 : lkc 187 (kcode 227) = some (.iload 7) := by decide +kernel
theorem k227_189 : lkc 189 (kcode 227) = some (.iadd) := by decide +kernel
theorem k227_190 : lkc 190 (kcode 227) = some (.invokevirtual 412) := by decide +kernel
theorem k227_193 : lkc 193 (kcode 227) = some (.iinc 7 1) := by decide +kernel
theorem k227_196 : lkc 196 (kcode 227) = some (.goto (-88)) := by decide +kernel
theorem k227_199 : lkc 199 (kcode 227) = some (.return_) := by decide +kernel
theorem k228_0 : lkc 0 (kcode 228) = some (.aload_n 0) := by decide +kernel
theorem k228_1 : lkc 1 (kcode 228) = some (.iconst 0) := by decide +kernel
theorem k228_2 : lkc 2 (kcode 228) = some (.putfield 90) := by decide +kernel
theorem k228_5 : lkc 5 (kcode 228) = some (.aload_n 0) := by decide +kernel
theorem k228_6 : lkc 6 (kcode 228) = some (.iload_n 1) := by decide +kernel
theorem k228_7 : lkc 7 (kcode 228) = some (.invokevirtual 354) := by decide +kernel
theorem k228_10 : lkc 10 (kcode 228) = some (.ifCond .eq 11) := by decide +kernel
theorem k228_13 : lkc 13 (kcode 228) = some (.aload_n 0) := by decide +kernel
theorem k228_14 : lkc 14 (kcode 228) = some (.iload_n 2) := by decide +kernel
theorem k228_15 : lkc 15 (kcode 228) = some (.invokevirtual 354) := by decide +kernel
theorem k228_18 : lkc 18 (kcode 228) = some (.ifCond .ne 5) := by decide +kernel
theorem k228_21 : lkc 21 (kcode 228) = some (.iconst (-1)) := by decide +kernel
theorem k228_22 : lkc 22 (kcode 228) = some (.ireturn) := by decide +kernel
theorem k228_23 : lkc 23 (kcode 228) = some (.aload_n 0) := by decide +kernel
theorem k228_24 : lkc 24 (kcode 228) = some (.aload_n 0) := by decide +kernel
theorem k228_25 : lkc 25 (kcode 228) = some (.getfield 58) := by decide +kernel
theorem k228_28 : lkc 28 (kcode 228) = some (.bipush 24) := by decide +kernel
theorem k228_30 : lkc 30 (kcode 228) = some (.iaload) := by decide +kernel
theorem k228_31 : lkc 31 (kcode 228) = some (.invokevirtual 341) := by decide +kernel
theorem k228_34 : lkc 34 (kcode 228) = some (.aload_n 0) := by decide +kernel
theorem k228_35 : lkc 35 (kcode 228) = some (.iload_n 1) := by decide +kernel
theorem k228_36 : lkc 36 (kcode 228) = some (.putfield 409) := by decide +kernel
theorem k228_39 : lkc 39 (kcode 228) = some (.aload_n 0) := by decide +kernel
theorem k228_40 : lkc 40 (kcode 228) = some (.iconst (-1)) := by decide +kernel
theorem k228_41 : lkc 41 (kcode 228) = some (.putfield 400) := by decide +kernel
theorem k228_44 : lkc 44 (kcode 228) = some (.aload_n 0) := by decide +kernel
theorem k228_45 : lkc 45 (kcode 228) = some (.iconst 0) := by decide +kernel
theorem k228_46 : lkc 46 (kcode 228) = some (.putfield 403) := by decide +kernel
theorem k228_49 : lkc 49 (kcode 228) = some (.aload_n 0) := by decide +kernel
theorem k228_50 : lkc 50 (kcode 228) = some (.iconst 0) := by decide +kernel
theorem k228_51 : lkc 51 (kcode 228) = some (.putfield 406) := by decide +kernel
theorem k228_54 : lkc 54 (kcode 228) = some (.aload_n 0) := by decide +kernel
theorem k228_55 : lkc 55 (kcode 228) = some (.iload_n 1) := by decide +kernel
theorem k228_56 : lkc 56 (kcode 228) = some (.iload_n 2) := by decide +kernel
theorem k228_57 : lkc 57 (kcode 228) = some (.iconst 1) := by decide +kernel
theorem k228_58 : lkc 58 (kcode 228) = some (.iload_n 1) := by decide +kernel
theorem k228_59 : lkc 59 (kcode 228) = some (.ishl) := by decide +kernel
theorem k228_60 : lkc 60 (kcode 228) = some (.iconst 0) := by decide +kernel
theorem k228_61 : lkc 61 (kcode 228) = some (.iconst 1) := by decide +kernel
theorem k228_62 : lkc 62 (kcode 228) = some (.iload_n 1) := by decide +kernel
theorem k228_63 : lkc 63 (kcode 228) = some (.invokevirtual 412) := by decide +kernel
theorem k228_66 : lkc 66 (kcode 228) = some (.aload_n 0) := by decide +kernel
theorem k228_67 : lkc 67 (kcode 228) = some (.getfield 400) := by decide +kernel
theorem k228_70 : lkc 70 (kcode 228) = some (.ireturn) := by decide +kernel
/-! forward: the way, the reference -/
def bsE (m : xM) (b : Option (Nat × Nat × Nat)) : Prop := (b = none ∧ m.1 314 46 = -1) ∨ ∃ t : Nat × Nat × Nat, b = some t ∧ t.1 < 1000 ∧ t.2.1 < 100 ∧ t.2.2 < 100000000 ∧ m.1 314 46 = nI t.2.2 ∧ m.1 314 44 = nI t.1 ∧ m.1 314 45 = nI t.2.1
def frW (m m2 : xM) : Prop := m2.2 = m.2 ∧ ∀ a i, ¬ (a = 314 ∧ 44 ≤ i ∧ i ≤ 46) → m2.1 a i = m.1 a i
theorem frW_rf (m : xM) : frW m m := ⟨rfl, fun _ _ _ => rfl⟩
theorem frW_tr {m m1 m2 : xM} (h : frW m m1) (g : frW m1 m2) : frW m m2 := ⟨g.1.trans h.1, fun a i q => (g.2 a i q).trans (h.2 a i q)⟩
theorem frW_r {m m2 : xM} (h : frW m m2) (hr : rS m) : rS m2 := fun a i b e => by rw [h.1]; exact hr a i b e
theorem frW_T {m m2 : xM} {C S : Nat} {A B Y : Nat → Nat} (h : frW m m2) (hT : mT m C S A B Y) : mT m2 C S A B Y := mT_f hT (fun i => ⟨⟨h.2 _ _ (by omega), h.2 _ _ (by omega)⟩, h.2 _ _ (by omega)⟩)
theorem frW_Y {m m2 : xM} {C : Nat} {D : Mt} (h : frW m m2) (hY : mY m C D) : mY m2 C D := fun a b ha hb => by rw [h.2 _ _ (by omega)]; exact hY a b ha hb
def wSt (m : xM) (b : Option (Nat × Nat × Nat)) (t : Nat × Nat × Nat) : xM := mI (mI (mI m 314 44 (nI t.1)) 314 45 (nI t.2.1)) 314 46 (nI t.2.2)
theorem waS_0 {C : Nat} {T D : Mt} {st b n a seen y s r : Nat} (h : a = b) (t : Nat × Nat × Nat) : waS C T D st b n a seen y s r t ↔ t = (y, s, r) := by
  constructor
  · rintro ⟨l, h1, h2, h3⟩
    cases l with
    | nil => exact h3
    | cons c l => exact absurd h h2.1
  · intro e
    exact ⟨[], Nat.zero_le _, h, e⟩
theorem lo3_set {b : Option (Nat × Nat × Nat)} {t : Nat × Nat × Nat} (h : ∀ u, b = some u → le3 t u) : lo3 b (some t) (fun x => x = t) := ⟨Or.inr ⟨t, rfl, rfl⟩, fun u hu => ⟨t, rfl, h u hu⟩, fun u hu => ⟨t, rfl, by rw [hu]; exact le3_rf t⟩⟩
theorem lo3_kp {u t : Nat × Nat × Nat} (h : le3 u t) : lo3 (some u) (some u) (fun x => x = t) := ⟨Or.inl rfl, fun v hv => ⟨u, rfl, by cases hv; exact le3_rf u⟩, fun v hv => ⟨u, rfl, by rw [hv]; exact h⟩⟩
theorem cnt_rm {C e : Nat} {seen n : Nat} (he : e < C) (hb : seen.testBit e = false) (h : fa_cnt (fun c => !(seen.testBit c)) C ≤ n + 1) : fa_cnt (fun c => !((seen ||| 2 ^ e).testBit c)) C ≤ n := by
  have key : ∀ k, k ≤ C → fa_cnt (fun c => !((seen ||| 2 ^ e).testBit c)) k + (if e < k then 1 else 0) = fa_cnt (fun c => !(seen.testBit c)) k := by
    intro k
    induction k with
    | zero => exact fun _ => rfl
    | succ k ih =>
      intro hk
      have ih := ih (by omega)
      by_cases c : e = k
      · subst c
        rw [if_neg (by omega)] at ih
        rw [if_pos (by omega), fa_cnt_yes (p := fun c => !(seen.testBit c)) (by show (!(seen.testBit e)) = true; rw [hb]; rfl), fa_cnt_no (p := fun c => !((seen ||| 2 ^ e).testBit c)) (by show (!((seen ||| 2 ^ e).testBit e)) = false; rw [or_bit.mpr (Or.inr rfl)]; rfl)]
        omega
      · have e2 : (seen ||| 2 ^ e).testBit k = seen.testBit k := by
          rw [Nat.testBit_or, Nat.testBit_two_pow, decide_eq_false c, Bool.or_false]
        have e3 : (if e < k + 1 then 1 else 0) = (if e < k then 1 else 0) := by
          by_cases q : e < k
          · rw [if_pos q, if_pos (by omega)]
          · rw [if_neg q, if_neg (by omega)]
        rw [e3]
        cases hs : seen.testBit k with
        | true =>
          rw [fa_cnt_no (p := fun c => !((seen ||| 2 ^ e).testBit c)) (by show (!((seen ||| 2 ^ e).testBit k)) = false; rw [e2, hs]; rfl), fa_cnt_no (p := fun c => !(seen.testBit c)) (by show (!(seen.testBit k)) = false; rw [hs]; rfl)]
          exact ih
        | false =>
          rw [fa_cnt_yes (p := fun c => !((seen ||| 2 ^ e).testBit c)) (by show (!((seen ||| 2 ^ e).testBit k)) = true; rw [e2, hs]; rfl), fa_cnt_yes (p := fun c => !(seen.testBit c)) (by show (!(seen.testBit k)) = true; rw [hs]; rfl)]
          omega
  have := key C (Nat.le_refl _)
  rw [if_pos he] at this
  omega
theorem cnt_0 {C e : Nat} {seen : Nat} (he : e < C) (hb : seen.testBit e = false) : 1 ≤ fa_cnt (fun c => !(seen.testBit c)) C := by
  have h1 := cnt_lw (q := fun c => !(seen.testBit c)) (show e + 1 ≤ C from he)
  rw [fa_cnt_yes (p := fun c => !(seen.testBit c)) (by show (!(seen.testBit e)) = true; rw [hb]; rfl)] at h1
  omega
def goP (C S w st ot : Nat) (A B Y : Nat → Nat) (T D : Mt) (n : Nat) : Prop := ∀ (m : xM) (a seen y s r : Nat) (b0 : Option (Nat × Nat × Nat)), rS m → mT m C S A B Y → mY m C D → m.1 326 24 = nI w → m.1 314 47 = nI st → a < C → seen < 256 → s + n ≤ 8 → fa_cnt (fun c => !(seen.testBit c)) C ≤ n → y ≤ 40 * s → (r + 1) * 10 ^ n ≤ 100000000 → bsE m b0 → fC 227 [.ref 314, .int (nI a), .int (nI ot), .int (nI seen), .int (nI y), .int (nI s), .int (nI r)] m (fun rv m' => rv = none ∧ frW m m' ∧ ∃ b2, bsE m' b2 ∧ lo3 b0 b2 (waS C T D st ot n a seen y s r))
set_option maxHeartbeats 4000000 in
theorem c_goWay1 {C S w st ot : Nat} {A B Y : Nat → Nat} {T D : Mt} (hw2 : w < 65536) (hs : st < C) (hot : ot < C) (hbt : ∀ a b, btN A B Y w a b S = T a b) (h40 : mle 40 T) (hDb : mle 100000 D) {n : Nat} (IH : ∀ k, k + 1 = n → goP C S w st ot A B Y T D k) : goP C S w st ot A B Y T D n := by
  intro m a seen y s r b0 hr hT hY hw hst ha hse hsn hcn hy hrn hb0
  refine fC_of (by decide) (fun d n9 P H => ?_)
  have hC8 : C ≤ 8 := hT.2.2.1
  have pn : 1 ≤ 10 ^ n := Nat.one_le_pow _ _ (by decide)
  have hr1 : (r + 1) * 1 ≤ (r + 1) * 10 ^ n := Nat.mul_le_mul_left _ pn
  have hr8 : r < 100000000 := by omega
  replace H := f_iload_n H k227_0 rfl
  replace H := f_iload_n H k227_1 rfl
  have Hbr := f_icmp_ne H k227_2 (t := 105) (by decide)
  clear H
  rcases Hbr with ⟨c0, H⟩ | ⟨c0, H⟩
  · rw [nI_inj (by omega) (by omega)] at c0
    have lp : ∀ n9 e v8 m1 b1, e ≤ C → frW m m1 → bsE m1 b1 → lo3 b0 b1 (waU C T D st ot n a seen y s r e) → xF 227 (xw d) P n9 108 [(7, .int (nI e)), (0, .ref 314), (1, .int (nI a)), (2, .int (nI ot)), (3, .int (nI seen)), (4, .int (nI y)), (5, .int (nI s)), (6, .int (nI r)), (8, .int v8)] [] m1 → ∃ rv m', P rv m' ∧ rv = none ∧ frW m m' ∧ ∃ b2, bsE m' b2 ∧ lo3 b0 b2 (waS C T D st ot n a seen y s r) := by
      intro n9
      induction n9 with
      | zero => exact fun e v8 m1 b1 _ _ _ _ H => (xF_0 H).elim
      | succ n9 ih =>
        intro e v8 m1 b1 he hf hb1 hl H
        have hr : rS m1 := frW_r hf hr
        have hT1 : mT m1 C S A B Y := frW_T hf hT
        have hY1 : mY m1 C D := frW_Y hf hY
        have hw1 : m1.1 326 24 = nI w := by rw [hf.2 _ _ (by omega)]; exact hw
        have hst1 : m1.1 314 47 = nI st := by rw [hf.2 _ _ (by omega)]; exact hst
        have nxt : ∀ v8 m2 b2, e < C → frW m m2 → bsE m2 b2 → lo3 b0 b2 (waU C T D st ot n a seen y s r (e + 1)) → xF 227 (xw d) P n9 193 [(7, .int (nI e)), (0, .ref 314), (1, .int (nI a)), (2, .int (nI ot)), (3, .int (nI seen)), (4, .int (nI y)), (5, .int (nI s)), (6, .int (nI r)), (8, .int v8)] [] m2 → ∃ rv m', P rv m' ∧ rv = none ∧ frW m m' ∧ ∃ b2, bsE m' b2 ∧ lo3 b0 b2 (waS C T D st ot n a seen y s r) := by
          intro v8 m2 b2 he2 hf2 hb2 hl2 H
          replace H := f_iinc H k227_193 rfl (l2 := [(7, .int (nI e + 1)), (0, .ref 314), (1, .int (nI a)), (2, .int (nI ot)), (3, .int (nI seen)), (4, .int (nI y)), (5, .int (nI s)), (6, .int (nI r)), (8, .int v8)]) rfl
          replace H := f_goto H k227_196 (t := 108) (by decide)
          rw [nI_s] at H
          exact ih (e + 1) v8 m2 b2 he2 hf2 hb2 hl2 H
        have no : ¬ (seen.testBit e = false ∧ T a e ≠ 0 ∧ y + T a e ≤ D st e) → lo3 b0 b1 (waU C T D st ot n a seen y s r (e + 1)) := fun h => lo3_im hl (waU_no h)
        have fin : ∀ s9, e < C → ((seen.testBit e = true ∧ s9 = -1) ∨ (seen.testBit e = false ∧ s9 = stp (T a e))) → xF 227 (xw d) P n9 137 [(7, .int (nI e)), (0, .ref 314), (1, .int (nI a)), (2, .int (nI ot)), (3, .int (nI seen)), (4, .int (nI y)), (5, .int (nI s)), (6, .int (nI r)), (8, .int v8)] [.int s9] m1 → ∃ rv m', P rv m' ∧ rv = none ∧ frW m m' ∧ ∃ b2, bsE m' b2 ∧ lo3 b0 b2 (waS C T D st ot n a seen y s r) := by
          intro s9 he2 h9 H
          have t40 := h40 a e
          have dBd := hDb st e
          replace H := f_istore H k227_137 (l2 := [(8, .int s9), (7, .int (nI e)), (0, .ref 314), (1, .int (nI a)), (2, .int (nI ot)), (3, .int (nI seen)), (4, .int (nI y)), (5, .int (nI s)), (6, .int (nI r))]) rfl
          replace H := f_iload H k227_139 rfl
          replace H := f_iconst H k227_141 (v := -1) (by decide)
          by_cases z : seen.testBit e = false ∧ T a e ≠ 0
          · have es : s9 = nI (T a e) := by
              rcases h9 with ⟨q, -⟩ | ⟨-, q⟩
              · rw [z.1] at q
                cases q
              · rw [q]
                exact stp_n z.2
            replace H := f_icmp_eq_f H k227_142 (by rw [es]; exact nI_ne1 (by omega))
            replace H := f_iload H k227_145 rfl
            replace H := f_iload H k227_147 rfl
            replace H := f_iadd H k227_149
            replace H := f_aload_n H k227_150 rfl
            replace H := f_aload_n H k227_151 rfl
            replace H := f_gi H k227_152 (ci := 12) (f := 47) (by decide +kernel) (by decide)
            replace H := f_iload H k227_155 rfl
            rw [es, r_ad, hst1] at H
            obtain ⟨rv, m3, ⟨rfl, e3⟩, h9_157⟩ := f_inv H k227_157 (by decide +kernel) (as := [.int _, .int _]) (b := 314) (r := [.int _]) (by rfl) (c_far0 hr hC8 hs he2 hY1)
            replace H := h9_157
            rw [← e3] at H
            clear e3
            have Hbr := f_icmp_gt H k227_160 (t := 193) (by decide)
            clear H
            rcases Hbr with ⟨c1, H⟩ | ⟨c1, H⟩
            · rw [nxlt (by omega) (by omega)] at c1
              replace H := f_ext H (l' := [(7, .int (nI e)), (0, .ref 314), (1, .int (nI a)), (2, .int (nI ot)), (3, .int (nI seen)), (4, .int (nI y)), (5, .int (nI s)), (6, .int (nI r)), (8, .int (nI (T a e)))]) (lE_cons rfl (lE_cons rfl (lE_cons rfl (lE_cons rfl (lE_cons rfl (lE_cons rfl (lE_cons rfl (lE_cons rfl (lE_cons rfl (lE_nil)))))))))) rfl rfl
              exact nxt _ m1 b1 he2 hf hb1 (no (fun q => by have := q.2.2; omega)) H
            · rw [nxlt (by omega) (by omega)] at c1
              have hu := cnt_0 he2 z.1
              obtain ⟨k, hk⟩ : ∃ k, k + 1 = n := ⟨n - 1, by omega⟩
              have p3 : (10 * r + e + 1) * 10 ^ k ≤ (10 * (r + 1)) * 10 ^ k := Nat.mul_le_mul_right _ (by omega)
              have p4 : (r + 1) * 10 ^ n = (10 * (r + 1)) * 10 ^ k := by
                rw [← hk, Nat.pow_succ, Nat.mul_comm (10 ^ k) 10, ← Nat.mul_assoc, Nat.mul_comm (r + 1) 10]
              have hse2 : seen ||| 2 ^ e < 256 := Nat.or_lt_two_pow (n := 8) hse (Nat.pow_lt_pow_right (by omega) (by omega))
              replace H := f_aload_n H k227_163 rfl
              replace H := f_iload H k227_164 rfl
              replace H := f_iload_n H k227_166 rfl
              replace H := f_iload_n H k227_167 rfl
              replace H := f_iconst H k227_168 (v := 1) (by decide)
              replace H := f_iload H k227_169 rfl
              replace H := f_ishl H k227_171
              replace H := f_ior H k227_172
              replace H := f_iload H k227_173 rfl
              replace H := f_iload H k227_175 rfl
              replace H := f_iadd H k227_177
              replace H := f_iload H k227_178 rfl
              replace H := f_iconst H k227_180 (v := 1) (by decide)
              replace H := f_iadd H k227_181
              replace H := f_bipush H k227_182 (v := 10) (by decide)
              replace H := f_iload H k227_184 rfl
              replace H := f_imul H k227_186
              replace H := f_iload H k227_187 rfl
              replace H := f_iadd H k227_189
              rw [shl_n (by omega), fa_or, r_ad, nI_s, show (10 : Int32) = nI 10 from rfl, nI_mul, r_ad] at H
              obtain ⟨rv, m3, ⟨rfl, hf3, b3, hb3, hl3⟩, h9_190⟩ := f_inv H k227_190 (by decide +kernel) (as := [.int _, .int _, .int _, .int _, .int _, .int _]) (b := 314) (r := []) (by rfl) (IH k hk m1 e _ (y + T a e) (s + 1) (10 * r + e) b1 hr hT1 hY1 hw1 hst1 he2 hse2 (by omega) (cnt_rm he2 z.1 (by omega)) (by omega) (by omega) hb1)
              replace H := h9_190
              have hl4 := lo3_tr hl hl3
              rw [← hk] at hl4
              have hl5 := lo3_im hl4 (waU_ye c0 he2 z.1 z.2 (by omega))
              rw [hk] at hl5
              replace H := f_ext H (l' := [(7, .int (nI e)), (0, .ref 314), (1, .int (nI a)), (2, .int (nI ot)), (3, .int (nI seen)), (4, .int (nI y)), (5, .int (nI s)), (6, .int (nI r)), (8, .int (nI (T a e)))]) (lE_cons rfl (lE_cons rfl (lE_cons rfl (lE_cons rfl (lE_cons rfl (lE_cons rfl (lE_cons rfl (lE_cons rfl (lE_cons rfl (lE_nil)))))))))) rfl rfl
              exact nxt _ m3 b3 he2 (frW_tr hf hf3) hb3 hl5 H
          · have es : s9 = -1 := by
              rcases h9 with ⟨-, q⟩ | ⟨q1, q⟩
              · exact q
              · rw [q]
                have : T a e = 0 := Classical.byContradiction (fun w9 => z ⟨q1, w9⟩)
                rw [this]
                rfl
            replace H := f_icmp_eq_t H k227_142 es (t := 193) (by decide)
            replace H := f_ext H (l' := [(7, .int (nI e)), (0, .ref 314), (1, .int (nI a)), (2, .int (nI ot)), (3, .int (nI seen)), (4, .int (nI y)), (5, .int (nI s)), (6, .int (nI r)), (8, .int s9)]) (lE_cons rfl (lE_cons rfl (lE_cons rfl (lE_cons rfl (lE_cons rfl (lE_cons rfl (lE_cons rfl (lE_cons rfl (lE_cons rfl (lE_nil)))))))))) rfl rfl
            exact nxt _ m1 b1 he2 hf hb1 (no (fun q => z ⟨q.1, q.2.1⟩)) H
        replace H := f1_iload H k227_108 rfl
        replace H := f_aload_n H k227_110 rfl
        replace H := f_gi H k227_111 (ci := 12) (f := 25) (by decide +kernel) (by decide)
        rw [hT1.1] at H
        have Hbr := f_icmp_ge H k227_114 (t := 199) (by decide)
        clear H
        rcases Hbr with ⟨c1, H⟩ | ⟨c1, H⟩
        · rw [nxle (by omega) (by omega)] at c1
          have ee : e = C := by omega
          replace H := f_ret H k227_199
          rw [ee] at hl
          exact ⟨_, _, H, rfl, hf, b1, hb1, lo3_im hl (waU_C c0)⟩
        · rw [nxle (by omega) (by omega)] at c1
          replace H := f_iload_n H k227_117 rfl
          replace H := f_iload H k227_118 rfl
          obtain ⟨rv, m3, ⟨rfl, e3⟩, h9_120⟩ := f_ins H k227_120 (by decide +kernel) (as := [.int _, .int _]) (r := []) (by rfl) (c_hasN (k := seen) (j := e) (by omega) (by omega))
          replace H := h9_120
          rw [← e3] at H
          clear e3
          cases hb : seen.testBit e with
          | true =>
            rw [hb] at H
            replace H := f_if_eq_f H k227_123 (by decide)
            replace H := f_iconst H k227_126 (v := -1) (by decide)
            replace H := f_goto H k227_127 (t := 137) (by decide)
            exact fin (-1) (by omega) (Or.inl ⟨hb, rfl⟩) H
          | false =>
            rw [hb] at H
            replace H := f_if_eq_t H k227_123 rfl (t := 130) (by decide)
            replace H := f_aload_n H k227_130 rfl
            replace H := f_iload_n H k227_131 rfl
            replace H := f_iload H k227_132 rfl
            obtain ⟨rv, m4, ⟨rfl, e3⟩, h9_134⟩ := f_inv H k227_134 (by decide +kernel) (as := [.int _, .int _]) (b := 314) (r := []) (by rfl) (c_between hr hT1 hw1 hw2 ha (by omega))
            replace H := h9_134
            rw [← e3, hbt] at H
            clear e3
            exact fin _ (by omega) (Or.inr ⟨hb, rfl⟩) H
    replace H := f_iconst H k227_105 (v := 0) (by decide)
    replace H := f_istore H k227_106 (l2 := [(7, .int 0), (0, .ref 314), (1, .int (nI a)), (2, .int (nI ot)), (3, .int (nI seen)), (4, .int (nI y)), (5, .int (nI s)), (6, .int (nI r))]) rfl
    replace H := f_ext H (l' := [(7, .int (nI 0)), (0, .ref 314), (1, .int (nI a)), (2, .int (nI ot)), (3, .int (nI seen)), (4, .int (nI y)), (5, .int (nI s)), (6, .int (nI r)), (8, .int 0)]) (lE_cons rfl (lE_cons rfl (lE_cons rfl (lE_cons rfl (lE_cons rfl (lE_cons rfl (lE_cons rfl (lE_cons rfl (lE_nil))))))))) rfl rfl
    exact lp _ 0 _ m b0 (Nat.zero_le _) (frW_rf m) hb0 (lo3_no (fun t h => by
      obtain ⟨c, l, h1, -⟩ := h
      exact absurd h1 (Nat.not_lt_zero c))) H
  · rw [nI_inj (by omega) (by omega)] at c0
    have kp : ∀ n9, lo3 b0 b0 (fun x => x = (y, s, r)) → xF 227 (xw d) P n9 80 [(7, .int 0), (0, .ref 314), (1, .int (nI a)), (2, .int (nI ot)), (3, .int (nI seen)), (4, .int (nI y)), (5, .int (nI s)), (6, .int (nI r))] [] m → ∃ rv m', P rv m' ∧ rv = none ∧ frW m m' ∧ ∃ b2, bsE m' b2 ∧ lo3 b0 b2 (waS C T D st ot n a seen y s r) := by
      intro n9 hl H
      replace H := f_iload H k227_80 rfl
      replace H := f_if_ne_f H k227_82 (by decide)
      replace H := f_ret H k227_85
      exact ⟨_, _, H, rfl, frW_rf m, b0, hb0, lo3_im hl (fun t => (waS_0 c0 t).symm)⟩
    have se : ∀ n9, (∀ u, b0 = some u → le3 (y, s, r) u) → xF 227 (xw d) P n9 80 [(7, .int 1), (0, .ref 314), (1, .int (nI a)), (2, .int (nI ot)), (3, .int (nI seen)), (4, .int (nI y)), (5, .int (nI s)), (6, .int (nI r))] [] m → ∃ rv m', P rv m' ∧ rv = none ∧ frW m m' ∧ ∃ b2, bsE m' b2 ∧ lo3 b0 b2 (waS C T D st ot n a seen y s r) := by
      intro n9 hl H
      replace H := f_iload H k227_80 rfl
      replace H := f_if_ne_t H k227_82 (by decide) (t := 86) (by decide)
      replace H := f_aload_n H k227_86 rfl
      replace H := f_iload H k227_87 rfl
      replace H := f_put_i H k227_89 (ci := 12) (f := 44) (by decide +kernel) (by decide)
      replace H := f_aload_n H k227_92 rfl
      replace H := f_iload H k227_93 rfl
      replace H := f_put_i H k227_95 (ci := 12) (f := 45) (by decide +kernel) (by decide)
      replace H := f_aload_n H k227_98 rfl
      replace H := f_iload H k227_99 rfl
      replace H := f_put_i H k227_101 (ci := 12) (f := 46) (by decide +kernel) (by decide)
      replace H := f_ret H k227_104
      exact ⟨_, _, H, rfl, ⟨rfl, fun a i h => by rw [mI_ne (by omega), mI_ne (by omega), mI_ne (by omega)]⟩, some (y, s, r), Or.inr ⟨(y, s, r), rfl, by show y < 1000; omega, by show s < 100; omega, hr8, mI_at, by rw [mI_ne (by omega), mI_ne (by omega)]; exact mI_at, by rw [mI_ne (by omega)]; exact mI_at⟩, lo3_im (lo3_set hl) (fun t => (waS_0 c0 t).symm)⟩
    have q27 : ∀ n9 f, (f = 1 ∧ (b0 = none ∨ ∃ u, b0 = some u ∧ y < u.1)) ∨ (f = 0 ∧ ∃ u, b0 = some u ∧ ¬ y < u.1) → xF 227 (xw d) P n9 27 [(0, .ref 314), (1, .int (nI a)), (2, .int (nI ot)), (3, .int (nI seen)), (4, .int (nI y)), (5, .int (nI s)), (6, .int (nI r))] [.int f] m → ∃ rv m', P rv m' ∧ rv = none ∧ frW m m' ∧ ∃ b2, bsE m' b2 ∧ lo3 b0 b2 (waS C T D st ot n a seen y s r) := by
      intro n9 f hf H
      have q78 : ∀ n9 g, (g = 1 ∧ (∀ u, b0 = some u → le3 (y, s, r) u)) ∨ (g = 0 ∧ lo3 b0 b0 (fun x => x = (y, s, r))) → xF 227 (xw d) P n9 78 [(7, .int f), (0, .ref 314), (1, .int (nI a)), (2, .int (nI ot)), (3, .int (nI seen)), (4, .int (nI y)), (5, .int (nI s)), (6, .int (nI r))] [.int g] m → ∃ rv m', P rv m' ∧ rv = none ∧ frW m m' ∧ ∃ b2, bsE m' b2 ∧ lo3 b0 b2 (waS C T D st ot n a seen y s r) := by
        intro n9 g hg H
        replace H := f_istore H k227_78 (l2 := [(7, .int g), (0, .ref 314), (1, .int (nI a)), (2, .int (nI ot)), (3, .int (nI seen)), (4, .int (nI y)), (5, .int (nI s)), (6, .int (nI r))]) rfl
        rcases hg with ⟨rfl, hg⟩ | ⟨rfl, hg⟩
        · exact se _ hg H
        · exact kp _ hg H
      replace H := f_istore H k227_27 (l2 := [(7, .int f), (0, .ref 314), (1, .int (nI a)), (2, .int (nI ot)), (3, .int (nI seen)), (4, .int (nI y)), (5, .int (nI s)), (6, .int (nI r))]) rfl
      replace H := f_iload H k227_29 rfl
      replace H := f_aload_n H k227_31 rfl
      replace H := f_gi H k227_32 (ci := 12) (f := 44) (by decide +kernel) (by decide)
      rcases hb0 with ⟨e0, h46⟩ | ⟨u, e0, u1, u2, u3, h46, h44, h45⟩
      · have all : ∀ u, b0 = some u → le3 (y, s, r) u := fun u hu => by rw [e0] at hu; cases hu
        have ef : f = 1 := by
          rcases hf with ⟨h, -⟩ | ⟨-, v, hv, -⟩
          · exact h
          · rw [e0] at hv
            cases hv
        have Hbr := f_icmp_ne H k227_35 (t := 80) (by decide)
        clear H
        rcases Hbr with ⟨c1, H⟩ | ⟨c1, H⟩
        · subst ef
          exact se _ all H
        · replace H := f_aload_n H k227_38 rfl
          replace H := f_gi H k227_39 (ci := 12) (f := 46) (by decide +kernel) (by decide)
          replace H := f_iconst H k227_42 (v := -1) (by decide)
          replace H := f_icmp_eq_t H k227_43 (h46) (t := 73) (by decide)
          replace H := f_iconst H k227_73 (v := 1) (by decide)
          replace H := f_goto H k227_74 (t := 78) (by decide)
          exact q78 _ 1 (Or.inl ⟨rfl, all⟩) H
      · rw [h44] at H
        have n46 : ¬ m.1 314 46 = -1 := by rw [h46]; exact nI_ne1 (by omega)
        have Hbr := f_icmp_ne H k227_35 (t := 80) (by decide)
        clear H
        rcases Hbr with ⟨c1, H⟩ | ⟨c1, H⟩
        · rw [nI_inj (by omega) (by omega)] at c1
          rcases hf with ⟨rfl, hf⟩ | ⟨rfl, hf⟩
          · refine se _ (fun v hv => ?_) H
            rcases hf with hf | ⟨x, hx, hlt⟩
            · rw [hf] at hv
              cases hv
            · rw [hx] at hv
              cases hv
              exact Or.inl hlt
          · refine kp _ ?_ H
            obtain ⟨x, hx, hlt⟩ := hf
            rw [e0] at hx
            cases hx
            rw [e0]
            exact lo3_kp (Or.inl (by show u.1 < y; omega))
        · rw [nI_inj (by omega) (by omega)] at c1
          have yes : le3 (y, s, r) u → ∀ v, b0 = some v → le3 (y, s, r) v := fun h v hv => by rw [e0] at hv; cases hv; exact h
          have nop : le3 u (y, s, r) → lo3 b0 b0 (fun x => x = (y, s, r)) := fun h => by rw [e0]; exact lo3_kp h
          replace H := f_aload_n H k227_38 rfl
          replace H := f_gi H k227_39 (ci := 12) (f := 46) (by decide +kernel) (by decide)
          replace H := f_iconst H k227_42 (v := -1) (by decide)
          replace H := f_icmp_eq_f H k227_43 n46
          replace H := f_iload H k227_46 rfl
          replace H := f_aload_n H k227_48 rfl
          replace H := f_gi H k227_49 (ci := 12) (f := 45) (by decide +kernel) (by decide)
          rw [h45] at H
          have Hbr := f_icmp_lt H k227_52 (t := 73) (by decide)
          clear H
          rcases Hbr with ⟨c2, H⟩ | ⟨c2, H⟩
          · rw [nxlt (by omega) (by omega)] at c2
            replace H := f_iconst H k227_73 (v := 1) (by decide)
            replace H := f_goto H k227_74 (t := 78) (by decide)
            exact q78 _ 1 (Or.inl ⟨rfl, yes (Or.inr ⟨c1, Or.inl c2⟩)⟩) H
          · rw [nxlt (by omega) (by omega)] at c2
            replace H := f_iload H k227_55 rfl
            replace H := f_aload_n H k227_57 rfl
            replace H := f_gi H k227_58 (ci := 12) (f := 45) (by decide +kernel) (by decide)
            rw [h45] at H
            have Hbr := f_icmp_ne H k227_61 (t := 77) (by decide)
            clear H
            rcases Hbr with ⟨c3, H⟩ | ⟨c3, H⟩
            · rw [nI_inj (by omega) (by omega)] at c3
              replace H := f_iconst H k227_77 (v := 0) (by decide)
              exact q78 _ 0 (Or.inr ⟨rfl, nop (Or.inr ⟨c1.symm, Or.inl (by show u.2.1 < s; omega)⟩)⟩) H
            · rw [nI_inj (by omega) (by omega)] at c3
              replace H := f_iload H k227_64 rfl
              replace H := f_aload_n H k227_66 rfl
              replace H := f_gi H k227_67 (ci := 12) (f := 46) (by decide +kernel) (by decide)
              rw [h46] at H
              have Hbr := f_icmp_ge H k227_70 (t := 77) (by decide)
              clear H
              rcases Hbr with ⟨c4, H⟩ | ⟨c4, H⟩
              · rw [nxle (by omega) (by omega)] at c4
                replace H := f_iconst H k227_77 (v := 0) (by decide)
                exact q78 _ 0 (Or.inr ⟨rfl, nop (Or.inr ⟨c1.symm, Or.inr ⟨c3.symm, c4⟩⟩)⟩) H
              · rw [nxle (by omega) (by omega)] at c4
                replace H := f_iconst H k227_73 (v := 1) (by decide)
                replace H := f_goto H k227_74 (t := 78) (by decide)
                exact q78 _ 1 (Or.inl ⟨rfl, yes (Or.inr ⟨c1, Or.inr ⟨c3, by show r ≤ u.2.2; omega⟩⟩)⟩) H
    replace H := f_aload_n H k227_5 rfl
    replace H := f_gi H k227_6 (ci := 12) (f := 46) (by decide +kernel) (by decide)
    replace H := f_iconst H k227_9 (v := -1) (by decide)
    rcases hb0 with ⟨e0, h46⟩ | ⟨u, e0, u1, u2, u3, h46, h44, h45⟩
    · replace H := f_icmp_eq_t H k227_10 h46 (t := 22) (by decide)
      replace H := f_iconst H k227_22 (v := 1) (by decide)
      replace H := f_goto H k227_23 (t := 27) (by decide)
      exact q27 _ 1 (Or.inl ⟨rfl, Or.inl e0⟩) H
    · replace H := f_icmp_eq_f H k227_10 (by rw [h46]; exact nI_ne1 (by omega))
      replace H := f_iload H k227_13 rfl
      replace H := f_aload_n H k227_15 rfl
      replace H := f_gi H k227_16 (ci := 12) (f := 44) (by decide +kernel) (by decide)
      rw [h44] at H
      have Hbr := f_icmp_ge H k227_19 (t := 26) (by decide)
      clear H
      rcases Hbr with ⟨c1, H⟩ | ⟨c1, H⟩
      · rw [nxle (by omega) (by omega)] at c1
        replace H := f_iconst H k227_26 (v := 0) (by decide)
        exact q27 _ 0 (Or.inr ⟨rfl, u, e0, by omega⟩) H
      · rw [nxle (by omega) (by omega)] at c1
        replace H := f_iconst H k227_22 (v := 1) (by decide)
        replace H := f_goto H k227_23 (t := 27) (by decide)
        exact q27 _ 1 (Or.inl ⟨rfl, Or.inr ⟨u, e0, by omega⟩⟩) H
theorem c_goWay {C S w st ot : Nat} {A B Y : Nat → Nat} {T D : Mt} (hw2 : w < 65536) (hs : st < C) (hot : ot < C) (hbt : ∀ a b, btN A B Y w a b S = T a b) (h40 : mle 40 T) (hDb : mle 100000 D) : ∀ n, goP C S w st ot A B Y T D n := by
  intro n
  induction n with
  | zero => exact c_goWay1 hw2 hs hot hbt h40 hDb (fun k hk => absurd hk (by omega))
  | succ n ih => exact c_goWay1 hw2 hs hot hbt h40 hDb (fun k hk => by rw [show k = n by omega]; exact ih)
theorem cnt_one {C st : Nat} (hs : st < C) : fa_cnt (fun c => !((2 ^ st).testBit c)) C ≤ C - 1 := by
  have h0 : fa_cnt (fun c => !((0 : Nat).testBit c)) C ≤ (C - 1) + 1 := by
    have := fa_cnt_le (fun c => !((0 : Nat).testBit c)) C
    omega
  have := cnt_rm (n := C - 1) hs (Nat.zero_testBit st) h0
  rw [Nat.zero_or] at this
  exact this
set_option maxHeartbeats 2000000 in
theorem c_mway {m : xM} {C S w : Nat} {A B Y : Nat → Nat} {z y : Int32} (hr : rS m) (hT : mT m C S A B Y) (hw : m.1 326 24 = nI w) (hw2 : w < 65536) : fC 228 [.ref 314, .int z, .int y] m (fun rv m' => ∃ v, rv = some (.int v) ∧ waV C (wsX A B Y w S).1 (wyX C S A B Y w) (wyM C S A B Y w) z y v) := by
  refine fC_of (by decide) (fun d n P H => ?_)
  have c24 : (24 : Int32).toNatClampNeg = 24 := by decide
  replace H := f_aload_n H k228_0 rfl
  replace H := f_iconst H k228_1 (v := 0) (by decide)
  replace H := f_put_i H k228_2 (ci := 12) (f := 0) (by decide +kernel) (by decide)
  have hr : rS (mI m 314 0 0) := hr
  have hT : mT (mI m 314 0 0) C S A B Y := mT_f hT (fun i => ⟨⟨mI_ne (by omega), mI_ne (by omega)⟩, mI_ne (by omega)⟩)
  have hw : (mI m 314 0 0).1 326 24 = nI w := by rw [mI_ne (by omega)]; exact hw
  generalize mI m 314 0 0 = m at *
  have hC8 : C ≤ 8 := hT.2.2.1
  have hSt := mT_st hT
  have neg : ∀ n, ¬ ((∃ a, a < C ∧ z = nI a) ∧ ∃ b, b < C ∧ y = nI b) → xF 228 (xw d) P n 21 [(0, .ref 314), (1, .int z), (2, .int y)] [] m → ∃ rv m', P rv m' ∧ ∃ v, rv = some (.int v) ∧ waV C (wsX A B Y w S).1 (wyX C S A B Y w) (wyM C S A B Y w) z y v := by
    intro n hn H
    replace H := f_iconst H k228_21 (v := -1) (by decide)
    replace H := f_iret H k228_22
    exact ⟨_, _, H, _, rfl, Or.inr ⟨hn, rfl⟩⟩
  replace H := f_aload_n H k228_5 rfl
  replace H := f_iload_n H k228_6 rfl
  obtain ⟨rv, m3, ⟨ho1, e3⟩, h9_7⟩ := f_inv H k228_7 (by decide +kernel) (as := [.int _]) (b := 314) (r := []) (by rfl) (c_misCornerN hr hT.1 (by omega))
  replace H := h9_7
  rw [← e3] at H
  clear e3
  rcases ho1 with ⟨a, ha, hza, rfl⟩ | ⟨h0, rfl⟩
  · subst hza
    replace H := f_if_eq_f H k228_10 (by decide)
    replace H := f_aload_n H k228_13 rfl
    replace H := f_iload_n H k228_14 rfl
    obtain ⟨rv, m4, ⟨ho2, e3⟩, h9_15⟩ := f_inv H k228_15 (by decide +kernel) (as := [.int _]) (b := 314) (r := []) (by rfl) (c_misCornerN hr hT.1 (by omega))
    replace H := h9_15
    rw [← e3] at H
    clear e3
    rcases ho2 with ⟨b, hb, hyb, rfl⟩ | ⟨h1, rfl⟩
    · subst hyb
      replace H := f_if_ne_t H k228_18 (by decide) (t := 23) (by decide)
      replace H := f_aload_n H k228_23 rfl
      replace H := f_aload_n H k228_24 rfl
      replace H := f_gr H k228_25 (ci := 12) (f := 32) (x := 326) (by decide +kernel) (by decide) (hr 314 32 326 rfl)
      replace H := f_bipush H k228_28 (v := 24) (by decide)
      have Hob := f_iald H k228_30 (c := 208) (by decide)
      clear H
      obtain ⟨hb30, H⟩ := Hob
      rw [c24, hw] at H
      obtain ⟨rv, m6, ⟨rfl, hf, hY⟩, h9_31⟩ := f_inv H k228_31 (by decide +kernel) (as := [.int _]) (b := 314) (r := []) (by rfl) (c_laysYards hr hT hw2)
      replace H := h9_31
      have hr : rS m6 := fun a i b e => by rw [hf.1]; exact hr a i b e
      have hT : mT m6 C S A B Y := mT_f hT (fun i => ⟨⟨hf.2 _ _ (by omega), hf.2 _ _ (by omega)⟩, hf.2 _ _ (by omega)⟩)
      have hw : m6.1 326 24 = nI w := by rw [hf.2 _ _ (by omega)]; exact hw
      replace H := f_aload_n H k228_34 rfl
      replace H := f_iload_n H k228_35 rfl
      replace H := f_put_i H k228_36 (ci := 12) (f := 47) (by decide +kernel) (by decide)
      replace H := f_aload_n H k228_39 rfl
      replace H := f_iconst H k228_40 (v := -1) (by decide)
      replace H := f_put_i H k228_41 (ci := 12) (f := 46) (by decide +kernel) (by decide)
      replace H := f_aload_n H k228_44 rfl
      replace H := f_iconst H k228_45 (v := 0) (by decide)
      replace H := f_put_i H k228_46 (ci := 12) (f := 44) (by decide +kernel) (by decide)
      replace H := f_aload_n H k228_49 rfl
      replace H := f_iconst H k228_50 (v := 0) (by decide)
      replace H := f_put_i H k228_51 (ci := 12) (f := 45) (by decide +kernel) (by decide)
      replace H := f_aload_n H k228_54 rfl
      replace H := f_iload_n H k228_55 rfl
      replace H := f_iload_n H k228_56 rfl
      replace H := f_iconst H k228_57 (v := 1) (by decide)
      replace H := f_iload_n H k228_58 rfl
      replace H := f_ishl H k228_59
      replace H := f_iconst H k228_60 (v := 0) (by decide)
      replace H := f_iconst H k228_61 (v := 1) (by decide)
      replace H := f_iload_n H k228_62 rfl
      rw [shl_n (by omega)] at H
      have hr7 : rS (mI (mI (mI (mI m6 314 47 (nI a)) 314 46 (-1)) 314 44 0) 314 45 0) := hr
      have hT7 : mT (mI (mI (mI (mI m6 314 47 (nI a)) 314 46 (-1)) 314 44 0) 314 45 0) C S A B Y := mT_f hT (fun i => ⟨⟨by rw [mI_ne (by omega), mI_ne (by omega), mI_ne (by omega), mI_ne (by omega)], by rw [mI_ne (by omega), mI_ne (by omega), mI_ne (by omega), mI_ne (by omega)]⟩, by rw [mI_ne (by omega), mI_ne (by omega), mI_ne (by omega), mI_ne (by omega)]⟩)
      have hY7 : mY (mI (mI (mI (mI m6 314 47 (nI a)) 314 46 (-1)) 314 44 0) 314 45 0) C (wyM C S A B Y w) := fun a9 b9 ha9 hb9 => by rw [mI_ne (by omega), mI_ne (by omega), mI_ne (by omega), mI_ne (by omega)]; exact hY a9 b9 ha9 hb9
      have hw7 : (mI (mI (mI (mI m6 314 47 (nI a)) 314 46 (-1)) 314 44 0) 314 45 0).1 326 24 = nI w := by rw [mI_ne (by omega), mI_ne (by omega), mI_ne (by omega), mI_ne (by omega)]; exact hw
      have hs7 : (mI (mI (mI (mI m6 314 47 (nI a)) 314 46 (-1)) 314 44 0) 314 45 0).1 314 47 = nI a := by rw [mI_ne (by omega), mI_ne (by omega), mI_ne (by omega), mI_at]
      have hb7 : bsE (mI (mI (mI (mI m6 314 47 (nI a)) 314 46 (-1)) 314 44 0) 314 45 0) none := Or.inl ⟨rfl, by rw [mI_ne (by omega), mI_ne (by omega), mI_at]⟩
      generalize mI (mI (mI (mI m6 314 47 (nI a)) 314 46 (-1)) 314 44 0) 314 45 0 = m7 at *
      have hH := wyH_ok (w := w) hC8 hSt
      have p2 : (2 : Nat) ^ a ≤ 2 ^ 7 := Nat.pow_le_pow_right (by decide) (by omega)
      have p3 : (10 : Nat) ^ (C - 1) ≤ 10 ^ 7 := Nat.pow_le_pow_right (by decide) (by omega)
      have p4 : (a + 1) * 10 ^ (C - 1) ≤ 8 * 10 ^ 7 := Nat.mul_le_mul (by omega) p3
      have G := c_goWay hw2 ha hb (fun a b => btN_X hSt S (Nat.le_refl _)) (fun a b => wsX_40 hSt) (fwO_le (wsM_le hSt) C) (C - 1) m7 a (2 ^ a) 0 1 a none hr7 hT7 hY7 hw7 hs7 ha (by omega) (by omega) (cnt_one ha) (by omega) (by omega) hb7
      obtain ⟨rv, m8, ⟨rfl, hf8, b8, hb8, hl8⟩, h9_63⟩ := f_inv H k228_63 (by decide +kernel) (as := [.int _, .int _, .int _, .int _, .int _, .int _]) (b := 314) (r := []) (by rfl) (G)
      replace H := h9_63
      obtain ⟨w1, w2⟩ := way_main hH hC8 ha hb hl8
      replace H := f_aload_n H k228_66 rfl
      replace H := f_gi H k228_67 (ci := 12) (f := 46) (by decide +kernel) (by decide)
      by_cases q : wyX C S A B Y w a b < 1000000
      · obtain ⟨l, g1, g2⟩ := grL_ex hH hC8 hb (wyX C S A B Y w a b - 16 * wyM C S A B Y w a b) a ha q (by have := (hH.1 a b ha hb q).1; omega)
        have g4 := (hH.1 a b ha hb q).1
        obtain ⟨t, t1, t2⟩ := w2 l g1 (by omega) q
        rcases hb8 with ⟨e, -⟩ | ⟨t', e, -, -, -, h46, -⟩
        · rw [e] at t1
          cases t1
        · rw [e] at t1
          cases t1
          rw [h46, t2] at H
          replace H := f_iret H k228_70
          exact ⟨_, _, H, _, rfl, Or.inl ⟨a, b, ha, hb, rfl, rfl, Or.inr ⟨l, g1, by omega, q, rfl⟩⟩⟩
      · have e := w1 q
        rcases hb8 with ⟨-, h46⟩ | ⟨t', e', -⟩
        · rw [h46] at H
          replace H := f_iret H k228_70
          exact ⟨_, _, H, _, rfl, Or.inl ⟨a, b, ha, hb, rfl, rfl, Or.inl ⟨q, rfl⟩⟩⟩
        · rw [e] at e'
          cases e'
    · replace H := f_if_ne_f H k228_18 (by decide)
      exact neg _ (fun h => by
        obtain ⟨-, b, hb, e⟩ := h
        exact h1 b hb e) H
  · replace H := f_if_eq_t H k228_10 rfl (t := 21) (by decide)
    exact neg _ (fun h => by
      obtain ⟨⟨b, hb, e⟩, -⟩ := h
      exact h0 b hb e) H
