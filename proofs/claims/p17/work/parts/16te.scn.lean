/-! ways: the tables of both sides as functions, and that they come to the same corners -/
abbrev Mt : Type := Nat → Nat → Nat
def mst (c : Mt) (a b v : Nat) : Mt := fun i j => if i = a ∧ j = b then v else c i j
theorem mst_at {c : Mt} {a b v : Nat} : mst c a b v a b = v := if_pos ⟨rfl, rfl⟩
theorem mst_ne {c : Mt} {a b v i j : Nat} (h : ¬ (i = a ∧ j = b)) : mst c a b v i j = c i j := if_neg h
def bas (U : Nat) : Mt := fun a b => if a = b then 0 else U
def wsM (A B Y : Nat → Nat) (w : Nat) (c : Mt) : Nat → Mt
  | 0 => c
  | s + 1 => if w.testBit s then wsM A B Y w c s else mst (mst (wsM A B Y w c s) (A s) (B s) (min (wsM A B Y w c s (A s) (B s)) (Y s))) (B s) (A s) (min (wsM A B Y w c s (A s) (B s)) (Y s))
def wsX (A B Y : Nat → Nat) (w : Nat) : Nat → Mt × Mt
  | 0 => (fun _ _ => 0, bas 1000000)
  | s + 1 => if w.testBit s then wsX A B Y w s else if (wsX A B Y w s).1 (A s) (B s) = 0 ∨ Y s < (wsX A B Y w s).1 (A s) (B s) then (mst (mst (wsX A B Y w s).1 (A s) (B s) (Y s)) (B s) (A s) (Y s), mst (mst (wsX A B Y w s).2 (A s) (B s) (16 * Y s + 1)) (B s) (A s) (16 * Y s + 1)) else wsX A B Y w s
theorem wsM_t {A B Y : Nat → Nat} {w s : Nat} {c : Mt} (h : w.testBit s = true) : wsM A B Y w c (s + 1) = wsM A B Y w c s := if_pos h
theorem wsM_f {A B Y : Nat → Nat} {w s : Nat} {c : Mt} (h : w.testBit s = false) : wsM A B Y w c (s + 1) = mst (mst (wsM A B Y w c s) (A s) (B s) (min (wsM A B Y w c s (A s) (B s)) (Y s))) (B s) (A s) (min (wsM A B Y w c s (A s) (B s)) (Y s)) := if_neg (by rw [h]; decide)
theorem wsX_t {A B Y : Nat → Nat} {w s : Nat} (h : w.testBit s = true) : wsX A B Y w (s + 1) = wsX A B Y w s := if_pos h
theorem wsX_y {A B Y : Nat → Nat} {w s : Nat} (h : w.testBit s = false) (h2 : (wsX A B Y w s).1 (A s) (B s) = 0 ∨ Y s < (wsX A B Y w s).1 (A s) (B s)) : wsX A B Y w (s + 1) = (mst (mst (wsX A B Y w s).1 (A s) (B s) (Y s)) (B s) (A s) (Y s), mst (mst (wsX A B Y w s).2 (A s) (B s) (16 * Y s + 1)) (B s) (A s) (16 * Y s + 1)) := (if_neg (by rw [h]; decide)).trans (if_pos h2)
theorem wsX_n {A B Y : Nat → Nat} {w s : Nat} (h : w.testBit s = false) (h2 : ¬ ((wsX A B Y w s).1 (A s) (B s) = 0 ∨ Y s < (wsX A B Y w s).1 (A s) (B s))) : wsX A B Y w (s + 1) = wsX A B Y w s := (if_neg (by rw [h]; decide)).trans (if_neg h2)
/-- the tables behind the streets, side by side -/
def stR (T cX cM : Mt) : Prop := ∀ a b, T a b = T b a ∧ ((a = b ∧ T a b = 0 ∧ cX a b = 0 ∧ cM a b = 0) ∨ (a ≠ b ∧ ((T a b = 0 ∧ cX a b = 1000000 ∧ cM a b = 100000) ∨ (1 ≤ T a b ∧ T a b ≤ 40 ∧ cX a b = 16 * T a b + 1 ∧ cM a b = T a b))))
theorem stR_ok {A B Y : Nat → Nat} {w S : Nat} (hS : ∀ s, s < S → A s ≠ B s ∧ 1 ≤ Y s ∧ Y s ≤ 40) : ∀ s, s ≤ S → stR (wsX A B Y w s).1 (wsX A B Y w s).2 (wsM A B Y w (bas 100000) s) := by
  intro s
  induction s with
  | zero =>
    intro _ a b
    refine ⟨rfl, ?_⟩
    by_cases e : a = b
    · exact Or.inl ⟨e, rfl, if_pos e, if_pos e⟩
    · exact Or.inr ⟨e, Or.inl ⟨rfl, if_neg e, if_neg e⟩⟩
  | succ s ih =>
    intro hs
    have ih := ih (by omega)
    obtain ⟨h1, h2, h3⟩ := hS s (by omega)
    cases hw : w.testBit s with
    | true => rw [wsX_t hw, wsM_t hw]; exact ih
    | false =>
      rw [wsM_f hw]
      by_cases c : (wsX A B Y w s).1 (A s) (B s) = 0 ∨ Y s < (wsX A B Y w s).1 (A s) (B s)
      · rw [wsX_y hw c]
        have hv : min (wsM A B Y w (bas 100000) s (A s) (B s)) (Y s) = Y s := by
          obtain ⟨-, hx⟩ := ih (A s) (B s)
          rcases hx with ⟨e, -⟩ | ⟨-, ⟨x1, x2, x3⟩ | ⟨x1, x2, x3, x4⟩⟩
          · exact absurd e h1
          · rw [x3]; omega
          · rw [x4]; omega
        rw [hv]
        dsimp only
        intro a b
        obtain ⟨i1, i2⟩ := ih a b
        by_cases e1 : a = B s ∧ b = A s
        · obtain ⟨rfl, rfl⟩ := e1
          refine ⟨?_, Or.inr ⟨fun q => h1 q.symm, Or.inr ⟨?_, ?_, ?_, ?_⟩⟩⟩
          · rw [mst_at, mst_ne (fun q => h1 q.1), mst_at]
          · rw [mst_at]; exact h2
          · rw [mst_at]; exact h3
          · rw [mst_at, mst_at]
          · rw [mst_at, mst_at]
        · by_cases e2 : a = A s ∧ b = B s
          · obtain ⟨rfl, rfl⟩ := e2
            have n1 : ¬ (A s = B s ∧ B s = A s) := fun q => h1 q.1
            refine ⟨?_, Or.inr ⟨h1, Or.inr ⟨?_, ?_, ?_, ?_⟩⟩⟩
            · rw [mst_at, mst_ne n1, mst_at]
            · rw [mst_ne n1, mst_at]; exact h2
            · rw [mst_ne n1, mst_at]; exact h3
            · rw [mst_ne n1, mst_at, mst_ne n1, mst_at]
            · rw [mst_ne n1, mst_at, mst_ne n1, mst_at]
          · rw [mst_ne e1, mst_ne e2, mst_ne e1, mst_ne e2, mst_ne e1, mst_ne e2, mst_ne (fun q => e2 ⟨q.2, q.1⟩), mst_ne (fun q => e1 ⟨q.2, q.1⟩)]
            exact ⟨i1, i2⟩
      · rw [wsX_n hw c]
        have hv : min (wsM A B Y w (bas 100000) s (A s) (B s)) (Y s) = (wsX A B Y w s).1 (A s) (B s) := by
          obtain ⟨-, hx⟩ := ih (A s) (B s)
          rcases hx with ⟨e, -⟩ | ⟨-, ⟨x1, x2, x3⟩ | ⟨x1, x2, x3, x4⟩⟩
          · exact absurd e h1
          · exact absurd (Or.inl x1) c
          · rw [x4]; omega
        rw [hv]
        intro a b
        obtain ⟨i1, i2⟩ := ih a b
        refine ⟨i1, ?_⟩
        by_cases e1 : a = B s ∧ b = A s
        · obtain ⟨rfl, rfl⟩ := e1
          rcases i2 with ⟨e, -⟩ | ⟨-, ⟨x1, x2, x3⟩ | ⟨x1, x2, x3, x4⟩⟩
          · exact absurd e.symm h1
          · exact absurd (Or.inl (i1.symm.trans x1)) c
          · exact Or.inr ⟨fun q => h1 q.symm, Or.inr ⟨x1, x2, x3, by rw [mst_at, i1]⟩⟩
        · rw [mst_ne e1]
          by_cases e2 : a = A s ∧ b = B s
          · obtain ⟨rfl, rfl⟩ := e2
            rcases i2 with ⟨e, -⟩ | ⟨-, ⟨x1, x2, x3⟩ | ⟨x1, x2, x3, x4⟩⟩
            · exact absurd e h1
            · exact absurd (Or.inl x1) c
            · exact Or.inr ⟨h1, Or.inr ⟨x1, x2, x3, mst_at⟩⟩
          · rw [mst_ne e2]
            exact i2
def fwB (o a : Nat) (c : Mt) : Nat → Mt
  | 0 => c
  | b + 1 => mst (fwB o a c b) a b (min (fwB o a c b a b) (fwB o a c b a o + fwB o a c b o b))
def fwA (C o : Nat) (c : Mt) : Nat → Mt
  | 0 => c
  | a + 1 => fwB o a (fwA C o c a) C
def fwO (C : Nat) (c : Mt) : Nat → Mt
  | 0 => c
  | o + 1 => fwA C o (fwO C c o) C
theorem fwB_s {o a b : Nat} {c : Mt} : fwB o a c (b + 1) = mst (fwB o a c b) a b (min (fwB o a c b a b) (fwB o a c b a o + fwB o a c b o b)) := rfl
theorem fwA_s {C o a : Nat} {c : Mt} : fwA C o c (a + 1) = fwB o a (fwA C o c a) C := rfl
theorem fwO_s {C o : Nat} {c : Mt} : fwO C c (o + 1) = fwA C o (fwO C c o) C := rfl
def mle (U : Nat) (c : Mt) : Prop := ∀ a b, c a b ≤ U
theorem mle_m {U : Nat} {c : Mt} {a b v : Nat} (h : mle U c) : mle U (mst c a b (min (c a b) v)) := fun i j => by
  unfold mst
  split
  · exact Nat.le_trans (Nat.min_le_left _ _) (h a b)
  · exact h i j
theorem fwB_le {U o a : Nat} {c : Mt} (h : mle U c) : ∀ b, mle U (fwB o a c b)
  | 0 => h
  | b + 1 => mle_m (fwB_le h b)
theorem fwA_le {U C o : Nat} {c : Mt} (h : mle U c) : ∀ a, mle U (fwA C o c a)
  | 0 => h
  | a + 1 => fwB_le (fwA_le h a) C
theorem fwO_le {U C : Nat} {c : Mt} (h : mle U c) : ∀ o, mle U (fwO C c o)
  | 0 => h
  | o + 1 => fwA_le (fwO_le h o) C
/-- in a round over o: what is come to is alike, and how far is bounded -/
def fwR (L l o : Nat) (x y : Mt) : Prop := ∀ a b, (x a b = 1000000 ∧ y a b = 100000) ∨ (x a b ≤ 2 * L ∧ y a b ≤ 2 * l ∧ (a = o ∨ b = o → x a b ≤ L ∧ y a b ≤ l))
theorem fwR_s {L l o a b : Nat} {x y : Mt} (hL : 2 * L < 1000000) (hl : 2 * l < 100000) (h : fwR L l o x y) : fwR L l o (mst x a b (min (x a b) (x a o + x o b))) (mst y a b (min (y a b) (y a o + y o b))) := by
  intro i j
  by_cases e : i = a ∧ j = b
  · obtain ⟨rfl, rfl⟩ := e
    rw [mst_at, mst_at]
    have h1 := h i j
    have h2 := h i o
    have h3 := h o j
    by_cases c1 : i = o
    · subst c1
      rcases h1 with ⟨a1, a2⟩ | ⟨a1, a2, a3⟩
      · refine Or.inl ⟨by omega, by omega⟩
      · have := a3 (Or.inl rfl)
        exact Or.inr ⟨by omega, by omega, fun _ => ⟨by omega, by omega⟩⟩
    · by_cases c2 : j = o
      · subst c2
        rcases h1 with ⟨a1, a2⟩ | ⟨a1, a2, a3⟩
        · refine Or.inl ⟨by omega, by omega⟩
        · have := a3 (Or.inr rfl)
          exact Or.inr ⟨by omega, by omega, fun _ => ⟨by omega, by omega⟩⟩
      · have n : ¬ (i = o ∨ j = o) := by omega
        rcases h2 with ⟨b1, b2⟩ | ⟨b1, b2, b3⟩
        · rcases h1 with ⟨a1, a2⟩ | ⟨a1, a2, a3⟩
          · exact Or.inl ⟨by omega, by omega⟩
          · exact Or.inr ⟨by omega, by omega, fun q => absurd q n⟩
        · have b4 := b3 (Or.inr rfl)
          rcases h3 with ⟨d1, d2⟩ | ⟨d1, d2, d3⟩
          · rcases h1 with ⟨a1, a2⟩ | ⟨a1, a2, a3⟩
            · exact Or.inl ⟨by omega, by omega⟩
            · exact Or.inr ⟨by omega, by omega, fun q => absurd q n⟩
          · have d4 := d3 (Or.inl rfl)
            exact Or.inr ⟨by omega, by omega, fun q => absurd q n⟩
  · rw [mst_ne e, mst_ne e]
    exact h i j
theorem fwR_B {L l o a : Nat} {x y : Mt} (hL : 2 * L < 1000000) (hl : 2 * l < 100000) (h : fwR L l o x y) : ∀ b, fwR L l o (fwB o a x b) (fwB o a y b)
  | 0 => h
  | b + 1 => fwR_s hL hl (fwR_B hL hl h b)
theorem fwR_A {L l C o : Nat} {x y : Mt} (hL : 2 * L < 1000000) (hl : 2 * l < 100000) (h : fwR L l o x y) : ∀ a, fwR L l o (fwA C o x a) (fwA C o y a)
  | 0 => h
  | a + 1 => fwR_B hL hl (fwR_A hL hl h a) C
def fwQ (L l : Nat) (x y : Mt) : Prop := ∀ a b, (x a b = 1000000 ∧ y a b = 100000) ∨ (x a b ≤ L ∧ y a b ≤ l)
theorem fwQ_O {C : Nat} {x y : Mt} (h : fwQ 641 40 x y) : ∀ o, o ≤ 8 → fwQ (641 * 2 ^ o) (40 * 2 ^ o) (fwO C x o) (fwO C y o)
  | 0, _ => h
  | o + 1, ho => by
    have ih := fwQ_O (C := C) h o (by omega)
    have hp : (2 : Nat) ^ o ≤ 2 ^ 7 := Nat.pow_le_pow_right (by omega) (by omega)
    rw [show (2 : Nat) ^ 7 = 128 from rfl] at hp
    have hk := fwR_A (C := C) (o := o) (L := 641 * 2 ^ o) (l := 40 * 2 ^ o) (by omega) (by omega) (fun a b => by
      rcases ih a b with q | ⟨q1, q2⟩
      · exact Or.inl q
      · exact Or.inr ⟨by omega, by omega, fun _ => ⟨q1, q2⟩⟩) C
    intro a b
    rw [Nat.pow_succ]
    rcases hk a b with q | ⟨q1, q2, -⟩
    · exact Or.inl q
    · exact Or.inr ⟨by rw [fwO_s]; omega, by rw [fwO_s]; omega⟩
/-- the class's table, the reference's table -/
def wyX (C S : Nat) (A B Y : Nat → Nat) (w : Nat) : Mt := fwO C (wsX A B Y w S).2 C
def wyM (C S : Nat) (A B Y : Nat → Nat) (w : Nat) : Mt := fwO C (wsM A B Y w (bas 100000) S) C
theorem wy_R {C S w : Nat} {A B Y : Nat → Nat} (hC : C ≤ 8) (hS : ∀ s, s < S → A s ≠ B s ∧ 1 ≤ Y s ∧ Y s ≤ 40) (a b : Nat) : wyX C S A B Y w a b < 1000000 ↔ wyM C S A B Y w a b < 100000 := by
  have h0 : fwQ 641 40 (wsX A B Y w S).2 (wsM A B Y w (bas 100000) S) := fun a b => by
    rcases (stR_ok (w := w) hS S (Nat.le_refl _) a b).2 with ⟨-, -, x1, x2⟩ | ⟨-, ⟨-, x1, x2⟩ | ⟨x0, x1, x2, x3⟩⟩
    · exact Or.inr ⟨by omega, by omega⟩
    · exact Or.inl ⟨x1, x2⟩
    · exact Or.inr ⟨by omega, by omega⟩
  have hp : (2 : Nat) ^ C ≤ 2 ^ 8 := Nat.pow_le_pow_right (by omega) hC
  rw [show (2 : Nat) ^ 8 = 256 from rfl] at hp
  have h1 := fwQ_O (C := C) h0 C hC a b
  unfold wyX wyM
  rcases h1 with ⟨q1, q2⟩ | ⟨q1, q2⟩ <;> omega
theorem wsX_le {A B Y : Nat → Nat} {w S : Nat} (hS : ∀ s, s < S → A s ≠ B s ∧ 1 ≤ Y s ∧ Y s ≤ 40) : mle 1000000 (wsX A B Y w S).2 := fun a b => by
  rcases (stR_ok (w := w) hS S (Nat.le_refl _) a b).2 with ⟨-, -, x1, x2⟩ | ⟨-, ⟨-, x1, x2⟩ | ⟨x0, x1, x2, x3⟩⟩ <;> omega
theorem wsM_le {A B Y : Nat → Nat} {w S : Nat} (hS : ∀ s, s < S → A s ≠ B s ∧ 1 ≤ Y s ∧ Y s ≤ 40) : mle 100000 (wsM A B Y w (bas 100000) S) := fun a b => by
  rcases (stR_ok (w := w) hS S (Nat.le_refl _) a b).2 with ⟨-, -, x1, x2⟩ | ⟨-, ⟨-, x1, x2⟩ | ⟨x0, x1, x2, x3⟩⟩ <;> omega
theorem k198_0 : lkc 0 (kcode 198) = some (.iconst 0) := by decide +kernel
theorem k198_1 : lkc 1 (kcode 198) = some (.istore_n 2) := by decide +kernel
theorem k198_2 : lkc 2 (kcode 198) = some (.iload_n 2) := by decide +kernel
theorem k198_3 : lkc 3 (kcode 198) = some (.aload_n 0) := by decide +kernel
theorem k198_4 : lkc 4 (kcode 198) = some (.getfield 280) := by decide +kernel
theorem k198_7 : lkc 7 (kcode 198) = some (.if_icmp .ge 48) := by decide +kernel
theorem k198_10 : lkc 10 (kcode 198) = some (.iconst 0) := by decide +kernel
theorem k198_11 : lkc 11 (kcode 198) = some (.istore_n 3) := by decide +kernel
theorem k198_12 : lkc 12 (kcode 198) = some (.iload_n 3) := by decide +kernel
theorem k198_13 : lkc 13 (kcode 198) = some (.aload_n 0) := by decide +kernel
theorem k198_14 : lkc 14 (kcode 198) = some (.getfield 280) := by decide +kernel
theorem k198_17 : lkc 17 (kcode 198) = some (.if_icmp .ge 32) := by decide +kernel
theorem k198_20 : lkc 20 (kcode 198) = some (.aload_n 0) := by decide +kernel
theorem k198_21 : lkc 21 (kcode 198) = some (.getfield 71) := by decide +kernel
theorem k198_24 : lkc 24 (kcode 198) = some (.bipush 8) := by decide +kernel
theorem k198_26 : lkc 26 (kcode 198) = some (.iload_n 2) := by decide +kernel
theorem k198_27 : lkc 27 (kcode 198) = some (.imul) := by decide +kernel
theorem k198_28 : lkc 28 (kcode 198) = some (.iload_n 3) := by decide +kernel
theorem k198_29 : lkc 29 (kcode 198) = some (.iadd) := by decide +kernel
theorem k198_30 : lkc 30 (kcode 198) = some (.iload_n 2) := by decide +kernel
theorem k198_31 : lkc 31 (kcode 198) = some (.iload_n 3) := by decide +kernel
theorem k198_32 : lkc 32 (kcode 198) = some (.if_icmp .ne 7) := by decide +kernel
theorem k198_35 : lkc 35 (kcode 198) = some (.iconst 0) := by decide +kernel
theorem k198_36 : lkc 36 (kcode 198) = some (.goto 6) := by decide +kernel
theorem k198_39 : lkc 39 (kcode 198) = some (.ldc_w 301) := by decide +kernel
theorem k198_42 : lkc 42 (kcode 198) = some (.iastore) := by decide +kernel
theorem k198_43 : lkc 43 (kcode 198) = some (.iinc 3 1) := by decide +kernel
theorem k198_46 : lkc 46 (kcode 198) = some (.goto (-34)) := by decide +kernel
theorem k198_49 : lkc 49 (kcode 198) = some (.iinc 2 1) := by decide +kernel
theorem k198_52 : lkc 52 (kcode 198) = some (.goto (-50)) := by decide +kernel
theorem k198_55 : lkc 55 (kcode 198) = some (.iconst 0) := by decide +kernel
theorem k198_56 : lkc 56 (kcode 198) = some (.istore_n 2) := by decide +kernel
theorem k198_57 : lkc 57 (kcode 198) = some (.iload_n 2) := by decide +kernel
theorem k198_58 : lkc 58 (kcode 198) = some (.aload_n 0) := by decide +kernel
theorem k198_59 : lkc 59 (kcode 198) = some (.getfield 283) := by decide +kernel
theorem k198_62 : lkc 62 (kcode 198) = some (.if_icmp .ge 105) := by decide +kernel
theorem k198_65 : lkc 65 (kcode 198) = some (.iload_n 1) := by decide +kernel
theorem k198_66 : lkc 66 (kcode 198) = some (.iload_n 2) := by decide +kernel
theorem k198_67 : lkc 67 (kcode 198) = some (.invokestatic 223) := by decide +kernel
theorem k198_70 : lkc 70 (kcode 198) = some (.ifCond .eq 6) := by decide +kernel
theorem k198_73 : lkc 73 (kcode 198) = some (.goto 88) := by decide +kernel
theorem k198_76 : lkc 76 (kcode 198) = some (.bipush 8) := by decide +kernel
theorem k198_78 : lkc 78 (kcode 198) = some (.aload_n 0) := by decide +kernel
theorem k198_79 : lkc 79 (kcode 198) = some (.getfield 40) := by decide +kernel
theorem k198_82 : lkc 82 (kcode 198) = some (.iconst 4) := by decide +kernel
theorem k198_83 : lkc 83 (kcode 198) = some (.iload_n 2) := by decide +kernel
theorem k198_84 : lkc 84 (kcode 198) = some (.imul) := by decide +kernel
theorem k198_85 : lkc 85 (kcode 198) = some (.iaload) := by decide +kernel
theorem k198_86 : lkc 86 (kcode 198) = some (.imul) := by decide +kernel
theorem k198_87 : lkc 87 (kcode 198) = some (.aload_n 0) := by decide +kernel
theorem k198_88 : lkc 88 (kcode 198) = some (.getfield 40) := by decide +kernel
theorem k198_91 : lkc 91 (kcode 198) = some (.iconst 4) := by decide +kernel
theorem k198_92 : lkc 92 (kcode 198) = some (.iload_n 2) := by decide +kernel
theorem k198_93 : lkc 93 (kcode 198) = some (.imul) := by decide +kernel
theorem k198_94 : lkc 94 (kcode 198) = some (.iconst 1) := by decide +kernel
theorem k198_95 : lkc 95 (kcode 198) = some (.iadd) := by decide +kernel
theorem k198_96 : lkc 96 (kcode 198) = some (.iaload) := by decide +kernel
theorem k198_97 : lkc 97 (kcode 198) = some (.iadd) := by decide +kernel
theorem k198_98 : lkc 98 (kcode 198) = some (.istore_n 3) := by decide +kernel
theorem k198_99 : lkc 99 (kcode 198) = some (.bipush 8) := by decide +kernel
theorem k198_101 : lkc 101 (kcode 198) = some (.aload_n 0) := by decide +kernel
theorem k198_102 : lkc 102 (kcode 198) = some (.getfield 40) := by decide +kernel
theorem k198_105 : lkc 105 (kcode 198) = some (.iconst 4) := by decide +kernel
theorem k198_106 : lkc 106 (kcode 198) = some (.iload_n 2) := by decide +kernel
theorem k198_107 : lkc 107 (kcode 198) = some (.imul) := by decide +kernel
theorem k198_108 : lkc 108 (kcode 198) = some (.iconst 1) := by decide +kernel
theorem k198_109 : lkc 109 (kcode 198) = some (.iadd) := by decide +kernel
theorem k198_110 : lkc 110 (kcode 198) = some (.iaload) := by decide +kernel
theorem k198_111 : lkc 111 (kcode 198) = some (.imul) := by decide +kernel
theorem k198_112 : lkc 112 (kcode 198) = some (.aload_n 0) := by decide +kernel
theorem k198_113 : lkc 113 (kcode 198) = some (.getfield 40) := by decide +kernel
theorem k198_116 : lkc 116 (kcode 198) = some (.iconst 4) := by decide +kernel
theorem k198_117 : lkc 117 (kcode 198) = some (.iload_n 2) := by decide +kernel
theorem k198_118 : lkc 118 (kcode 198) = some (.imul) := by decide +kernel
theorem k198_119 : lkc 119 (kcode 198) = some (.iaload) := by decide +kernel
theorem k198_120 : lkc 120 (kcode 198) = some (.iadd) := by decide +kernel
theorem k198_121 : lkc 121 (kcode 198) = some (.istore 4) := by decide +kernel
theorem k198_123 : lkc 123 (kcode 198) = some (.aload_n 0) := by decide +kernel
theorem k198_124 : lkc 124 (kcode 198) = some (.getfield 71) := by decide +kernel
theorem k198_127 : lkc 127 (kcode 198) = some (.iload_n 3) := by decide +kernel
theorem k198_128 : lkc 128 (kcode 198) = some (.aload_n 0) := by decide +kernel
theorem k198_129 : lkc 129 (kcode 198) = some (.getfield 71) := by decide +kernel
theorem k198_132 : lkc 132 (kcode 198) = some (.iload_n 3) := by decide +kernel
theorem k198_133 : lkc 133 (kcode 198) = some (.iaload) := by decide +kernel
theorem k198_134 : lkc 134 (kcode 198) = some (.aload_n 0) := by decide +kernel
theorem k198_135 : lkc 135 (kcode 198) = some (.getfield 40) := by decide +kernel
theorem k198_138 : lkc 138 (kcode 198) = some (.iconst 4) := by decide +kernel
theorem k198_139 : lkc 139 (kcode 198) = some (.iload_n 2) := by decide +kernel
theorem k198_140 : lkc 140 (kcode 198) = some (.imul) := by decide +kernel
theorem k198_141 : lkc 141 (kcode 198) = some (.iconst 2) := by decide +kernel
theorem k198_142 : lkc 142 (kcode 198) = some (.iadd) := by decide +kernel
theorem k198_143 : lkc 143 (kcode 198) = some (.iaload) := by decide +kernel
theorem k198_144 : lkc 144 (kcode 198) = some (.invokestatic 302) := by decide +kernel
theorem k198_147 : lkc 147 (kcode 198) = some (.iastore) := by decide +kernel
theorem k198_148 : lkc 148 (kcode 198) = some (.aload_n 0) := by decide +kernel
theorem k198_149 : lkc 149 (kcode 198) = some (.getfield 71) := by decide +kernel
theorem k198_152 : lkc 152 (kcode 198) = some (.iload 4) := by decide +kernel
theorem k198_154 : lkc 154 (kcode 198) = some (.aload_n 0) := by decide +kernel
theorem k198_155 : lkc 155 (kcode 198) = some (.getfield 71) := by decide +kernel
theorem k198_158 : lkc 158 (kcode 198) = some (.iload_n 3) := by decide +kernel
theorem k198_159 : lkc 159 (kcode 198) = some (.iaload) := by decide +kernel
theorem k198_160 : lkc 160 (kcode 198) = some (.iastore) := by decide +kernel
theorem k198_161 : lkc 161 (kcode 198) = some (.iinc 2 1) := by decide +kernel
theorem k198_164 : lkc 164 (kcode 198) = some (.goto (-107)) := by decide +kernel
theorem k198_167 : lkc 167 (kcode 198) = some (.iconst 0) := by decide +kernel
theorem k198_168 : lkc 168 (kcode 198) = some (.istore_n 2) := by decide +kernel
theorem k198_169 : lkc 169 (kcode 198) = some (.iload_n 2) := by decide +kernel
theorem k198_170 : lkc 170 (kcode 198) = some (.aload_n 0) := by decide +kernel
theorem k198_171 : lkc 171 (kcode 198) = some (.getfield 280) := by decide +kernel
theorem k198_174 : lkc 174 (kcode 198) = some (.if_icmp .ge 94) := by decide +kernel
theorem k198_177 : lkc 177 (kcode 198) = some (.iconst 0) := by decide +kernel
theorem k198_178 : lkc 178 (kcode 198) = some (.istore_n 3) := by decide +kernel
theorem k198_179 : lkc 179 (kcode 198) = some (.iload_n 3) := by decide +kernel
theorem k198_180 : lkc 180 (kcode 198) = some (.aload_n 0) := by decide +kernel
theorem k198_181 : lkc 181 (kcode 198) = some (.getfield 280) := by decide +kernel
theorem k198_184 : lkc 184 (kcode 198) = some (.if_icmp .ge 78) := by decide +kernel
theorem k198_187 : lkc 187 (kcode 198) = some (.iconst 0) := by decide +kernel
theorem k198_188 : lkc 188 (kcode 198) = some (.istore 4) := by decide +kernel
theorem k198_190 : lkc 190 (kcode 198) = some (.iload 4) := by decide +kernel
theorem k198_192 : lkc 192 (kcode 198) = some (.aload_n 0) := by decide +kernel
theorem k198_193 : lkc 193 (kcode 198) = some (.getfield 280) := by decide +kernel
theorem k198_196 : lkc 196 (kcode 198) = some (.if_icmp .ge 60) := by decide +kernel
theorem k198_199 : lkc 199 (kcode 198) = some (.aload_n 0) := by decide +kernel
theorem k198_200 : lkc 200 (kcode 198) = some (.getfield 71) := by decide +kernel
theorem k198_203 : lkc 203 (kcode 198) = some (.bipush 8) := by decide +kernel
theorem k198_205 : lkc 205 (kcode 198) = some (.iload_n 3) := by decide +kernel
theorem k198_206 : lkc 206 (kcode 198) = some (.imul) := by decide +kernel
theorem k198_207 : lkc 207 (kcode 198) = some (.iload 4) := by decide +kernel
theorem k198_209 : lkc 209 (kcode 198) = some (.iadd) := by decide +kernel
theorem k198_210 : lkc 210 (kcode 198) = some (.aload_n 0) := by decide +kernel
theorem k198_211 : lkc 211 (kcode 198) = some (.getfield 71) := by decide +kernel
theorem k198_214 : lkc 214 (kcode 198) = some (.bipush 8) := by decide +kernel
theorem k198_216 : lkc 216 (kcode 198) = some (.iload_n 3) := by decide +kernel
theorem k198_217 : lkc 217 (kcode 198) = some (.imul) := by decide +kernel
theorem k198_218 : lkc 218 (kcode 198) = some (.iload 4) := by decide +kernel
theorem k198_220 : lkc 220 (kcode 198) = some (.iadd) := by decide +kernel
theorem k198_221 : lkc 221 (kcode 198) = some (.iaload) := by decide +kernel
theorem k198_222 : lkc 222 (kcode 198) = some (.aload_n 0) := by decide +kernel
theorem k198_223 : lkc 223 (kcode 198) = some (.getfield 71) := by decide +kernel
theorem k198_226 : lkc 226 (kcode 198) = some (.bipush 8) := by decide +kernel
theorem k198_228 : lkc 228 (kcode 198) = some (.iload_n 3) := by decide +kernel
theorem k198_229 : lkc 229 (kcode 198) = some (.imul) := by decide +kernel
theorem k198_230 : lkc 230 (kcode 198) = some (.iload_n 2) := by decide +kernel
theorem k198_231 : lkc 231 (kcode 198) = some (.iadd) := by decide +kernel
theorem k198_232 : lkc 232 (kcode 198) = some (.iaload) := by decide +kernel
theorem k198_233 : lkc 233 (kcode 198) = some (.aload_n 0) := by decide +kernel
theorem k198_234 : lkc 234 (kcode 198) = some (.getfield 71) := by decide +kernel
theorem k198_237 : lkc 237 (kcode 198) = some (.bipush 8) := by decide +kernel
theorem k198_239 : lkc 239 (kcode 198) = some (.iload_n 2) := by decide +kernel
theorem k198_240 : lkc 240 (kcode 198) = some (.imul) := by decide +kernel
theorem k198_241 : lkc 241 (kcode 198) = some (.iload 4) := by decide +kernel
theorem k198_243 : lkc 243 (kcode 198) = some (.iadd) := by decide +kernel
theorem k198_244 : lkc 244 (kcode 198) = some (.iaload) := by decide +kernel
theorem k198_245 : lkc 245 (kcode 198) = some (.iadd) := by decide +kernel
theorem k198_246 : lkc 246 (kcode 198) = some (.invokestatic 302) := by decide +kernel
theorem k198_249 : lkc 249 (kcode 198) = some (.iastore) := by decide +kernel
theorem k198_250 : lkc 250 (kcode 198) = some (.iinc 4 1) := by decide +kernel
theorem k198_253 : lkc 253 (kcode 198) = some (.goto (-63)) := by decide +kernel
theorem k198_256 : lkc 256 (kcode 198) = some (.iinc 3 1) := by decide +kernel
theorem k198_259 : lkc 259 (kcode 198) = some (.goto (-80)) := by decide +kernel
theorem k198_262 : lkc 262 (kcode 198) = some (.iinc 2 1) := by decide +kernel
theorem k198_265 : lkc 265 (kcode 198) = some (.goto (-96)) := by decide +kernel
theorem k198_268 : lkc 268 (kcode 198) = some (.return_) := by decide +kernel
theorem k269_0 : lkc 0 (kcode 269) = some (.iload_n 0) := by decide +kernel
theorem k269_1 : lkc 1 (kcode 269) = some (.iload_n 1) := by decide +kernel
theorem k269_2 : lkc 2 (kcode 269) = some (.if_icmp .gt 7) := by decide +kernel
theorem k269_5 : lkc 5 (kcode 269) = some (.iload_n 0) := by decide +kernel
theorem k269_6 : lkc 6 (kcode 269) = some (.goto 4) := by decide +kernel
theorem k269_9 : lkc 9 (kcode 269) = some (.iload_n 1) := by decide +kernel
theorem k269_10 : lkc 10 (kcode 269) = some (.ireturn) := by decide +kernel
