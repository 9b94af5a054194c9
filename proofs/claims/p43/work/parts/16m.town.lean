/-! a town's text: what it says, as a function -/
def LK (K : Nat) : Nat := if K = 1 then 4 else 2
theorem LK24 (K : Nat) : LK K = 2 ∨ LK K = 4 := by unfold LK; split <;> simp
def plc (K : Nat) (s : Int32) : Option Nat := if cst (1002 + K) 0 = s then some 0 else if cst (1002 + K) 1 = s then some 1 else if LK K ≤ 2 then none else if cst (1002 + K) 2 = s then some 2 else if cst (1002 + K) 3 = s then some 3 else none
def lsT (K i : Nat) : Int32 := cst (1007 + 4 * K) i
def msT (K i : Nat) : Int32 := cst (1008 + 4 * K) i
def dfT (K i : Nat) : Int32 := cst (1005 + 4 * K) i
def numT (N : Nat) (t : Nat → Int32) (least most : Int32) (h : Nat) : (Int32 × Nat) ⊕ Nat :=
  if (rdg N t 2 (sk N t h) 0).1 = sk N t h ∨ isDg (atv N t (rdg N t 2 (sk N t h) 0).1) then .inr (rdg N t 2 (sk N t h) 0).1
  else if (rdg N t 2 (sk N t h) 0).2 < least ∨ most < (rdg N t 2 (sk N t h) 0).2 then .inr ((rdg N t 2 (sk N t h) 0).1 - 1)
  else .inl ((rdg N t 2 (sk N t h) 0).2, (rdg N t 2 (sk N t h) 0).1)
def itB (N : Nat) (t : Nat → Int32) (K told : Nat) (row : Nat → Int32) (p : Nat) (s : Int32) (go : Nat → (Nat → Int32) → Nat → ((Nat → Int32) × Nat) ⊕ Nat) : ((Nat → Int32) × Nat) ⊕ Nat :=
  if s = -1 ∨ s = 59 then .inl (row, p)
  else match plc K s with
    | none => .inr p
    | some i => if told.testBit i then .inr p else
      match numT N t (lsT K i) (msT K i) (p + 1) with
      | .inr w => .inr w
      | .inl (v, h2) => go (told ||| 2 ^ i) (fun j => if j = i then v else row j) h2
def itm (N : Nat) (t : Nat → Int32) (K : Nat) : Nat → Nat → (Nat → Int32) → Nat → ((Nat → Int32) × Nat) ⊕ Nat
  | 0, _, _, _ => .inr 0
  | f + 1, told, row, h => itB N t K told row (sk N t h) (atv N t (sk N t h)) (itm N t K f)
theorem itB_1 {N : Nat} {t : Nat → Int32} {K told : Nat} {row : Nat → Int32} {p : Nat} {s : Int32} {go : Nat → (Nat → Int32) → Nat → ((Nat → Int32) × Nat) ⊕ Nat} (h : s = -1 ∨ s = 59) : itB N t K told row p s go = .inl (row, p) := by unfold itB; rw [if_pos h]
theorem itB_2 {N : Nat} {t : Nat → Int32} {K told : Nat} {row : Nat → Int32} {p : Nat} {s : Int32} {go : Nat → (Nat → Int32) → Nat → ((Nat → Int32) × Nat) ⊕ Nat} (h : ¬ (s = -1 ∨ s = 59)) (hp : plc K s = none) : itB N t K told row p s go = .inr p := by unfold itB; rw [if_neg h, hp]
theorem itB_3 {N : Nat} {t : Nat → Int32} {K told i : Nat} {row : Nat → Int32} {p : Nat} {s : Int32} {go : Nat → (Nat → Int32) → Nat → ((Nat → Int32) × Nat) ⊕ Nat} (h : ¬ (s = -1 ∨ s = 59)) (hp : plc K s = some i) (hb : told.testBit i = true) : itB N t K told row p s go = .inr p := by unfold itB; rw [if_neg h, hp]; dsimp only; rw [if_pos hb]
theorem itB_4 {N : Nat} {t : Nat → Int32} {K told i w : Nat} {row : Nat → Int32} {p : Nat} {s : Int32} {go : Nat → (Nat → Int32) → Nat → ((Nat → Int32) × Nat) ⊕ Nat} (h : ¬ (s = -1 ∨ s = 59)) (hp : plc K s = some i) (hb : told.testBit i = false) (hn : numT N t (lsT K i) (msT K i) (p + 1) = .inr w) : itB N t K told row p s go = .inr w := by unfold itB; rw [if_neg h, hp]; dsimp only; rw [if_neg (by rw [hb]; decide), hn]
theorem itB_5 {N : Nat} {t : Nat → Int32} {K told i h2 : Nat} {v : Int32} {row : Nat → Int32} {p : Nat} {s : Int32} {go : Nat → (Nat → Int32) → Nat → ((Nat → Int32) × Nat) ⊕ Nat} (h : ¬ (s = -1 ∨ s = 59)) (hp : plc K s = some i) (hb : told.testBit i = false) (hn : numT N t (lsT K i) (msT K i) (p + 1) = .inl (v, h2)) : itB N t K told row p s go = go (told ||| 2 ^ i) (fun j => if j = i then v else row j) h2 := by unfold itB; rw [if_neg h, hp]; dsimp only; rw [if_neg (by rw [hb]; decide), hn]
/-- what is told so far: streets, walkers, whether there are rules; the rows -/
def tST : Type := Nat × Nat × Bool × (Nat → Nat → Nat → Int32)
def ups (g : Nat → Nat → Nat → Int32) (K r : Nat) (row : Nat → Int32) : Nat → Nat → Nat → Int32 := fun a b => if a = K ∧ b = r then row else g a b
def tcR (r : ((Nat → Int32) × Nat) ⊕ Nat) (f : (Nat → Int32) → tST) : (tST × Nat) ⊕ Nat := match r with
  | .inr w => .inr w
  | .inl (row, h2) => .inl (f row, h2)
def tcB (N : Nat) (t : Nat → Int32) (S : tST) (p : Nat) (s : Int32) : (tST × Nat) ⊕ Nat :=
  if s = 115 ∧ S.2.2.1 = false then tcR (itm N t 0 5 0 (dfT 0) (p + 1)) (fun row => (S.1, S.2.1, true, ups S.2.2.2 0 0 row))
  else if s = 101 ∧ S.1 < 12 then tcR (itm N t 1 5 0 (dfT 1) (p + 1)) (fun row => (S.1 + 1, S.2.1, S.2.2.1, ups S.2.2.2 1 S.1 row))
  else if s = 112 ∧ S.2.1 < 4 then tcR (itm N t 2 5 0 (dfT 2) (p + 1)) (fun row => (S.1, S.2.1 + 1, S.2.2.1, ups S.2.2.2 2 S.2.1 row))
  else .inr p
def tcl (N : Nat) (t : Nat → Int32) (S : tST) (h : Nat) : (tST × Nat) ⊕ Nat := tcB N t S (sk N t h) (atv N t (sk N t h))
def snd (S : tST) : Prop := S.1 ≠ 0 ∧ S.2.1 ≠ 0 ∧ (∀ s, s < S.1 → S.2.2.2 1 s 0 < S.2.2.2 0 0 0 ∧ S.2.2.2 1 s 1 < S.2.2.2 0 0 0 ∧ S.2.2.2 1 s 0 ≠ S.2.2.2 1 s 1) ∧ ∀ w, w < S.2.1 → S.2.2.2 2 w 0 < S.2.2.2 0 0 0
def tw0 : tST := (0, 0, false, fun a _ => dfT a)
/-- how a text is read clause by clause from h on with S told: to its end, or where it fails -/
def twR (N : Nat) (t : Nat → Int32) : Nat → tST → Nat → tST ⊕ Nat → Prop
  | 0, _, _, _ => False
  | f + 1, S, h, r => match tcl N t S h with
    | .inr w => r = .inr w
    | .inl (S2, p) => if atv N t p = -1 then (snd S2 ∧ r = .inl S2) ∨ (¬ snd S2 ∧ r = .inr N) else twR N t f S2 (p + 1) r
theorem twR_det {N : Nat} {t : Nat → Int32} : ∀ f g S h r r2, twR N t f S h r → twR N t g S h r2 → r = r2 := by
  intro f
  induction f with
  | zero => exact fun _ _ _ _ _ h => h.elim
  | succ f ih =>
    intro g S h r r2 h1 h2
    cases g with
    | zero => exact h2.elim
    | succ g =>
      unfold twR at h1 h2
      revert h1 h2
      generalize tcl N t S h = z
      intro h1 h2
      match z, h1, h2 with
      | .inr w, h1, h2 => exact Eq.trans h1 (Eq.symm h2)
      | .inl (S2, p), h1, h2 =>
        dsimp only at h1 h2
        by_cases c : atv N t p = -1
        · rw [if_pos c] at h1 h2
          rcases h1 with ⟨a1, b1⟩ | ⟨a1, b1⟩ <;> rcases h2 with ⟨a2, b2⟩ | ⟨a2, b2⟩
          · exact b1.trans b2.symm
          · exact absurd a1 a2
          · exact absurd a2 a1
          · exact b1.trans b2.symm
        · rw [if_neg c] at h1 h2
          exact ih g _ _ _ _ h1 h2
set_option maxRecDepth 10000 in
theorem plc_i {K i : Nat} {s : Int32} (hi : i < LK K) (h1 : cst (1002 + K) i = s) (h2 : ∀ j, j < i → cst (1002 + K) j ≠ s) : plc K s = some i := by
  unfold plc
  have h4 : i < 4 := by rcases LK24 K with e | e <;> omega
  match i, h4 with
  | 0, _ => rw [if_pos h1]
  | 1, _ => rw [if_neg (h2 0 (by omega)), if_pos h1]
  | 2, _ => rw [if_neg (h2 0 (by omega)), if_neg (h2 1 (by omega)), if_neg (by omega), if_pos h1]
  | 3, _ => rw [if_neg (h2 0 (by omega)), if_neg (h2 1 (by omega)), if_neg (by omega), if_neg (h2 2 (by omega)), if_pos h1]
theorem plc_n {K : Nat} {s : Int32} (h2 : ∀ j, j < LK K → cst (1002 + K) j ≠ s) : plc K s = none := by
  unfold plc
  have h4 : 2 ≤ LK K := by rcases LK24 K with e | e <;> omega
  rw [if_neg (h2 0 (by omega)), if_neg (h2 1 (by omega))]
  by_cases c : LK K ≤ 2
  · rw [if_pos c]
  · have e4 : LK K = 4 := by rcases LK24 K with e | e <;> omega
    rw [if_neg c, if_neg (h2 2 (by omega)), if_neg (h2 3 (by omega))]
theorem plc_lt {K i : Nat} {s : Int32} (h : plc K s = some i) : i < LK K := by
  unfold plc at h
  have h4 : 2 ≤ LK K := by rcases LK24 K with e | e <;> omega
  split at h
  · cases h; omega
  · split at h
    · cases h; omega
    · split at h
      · cases h
      · have e4 : LK K = 4 := by rcases LK24 K with e | e <;> omega
        split at h
        · cases h; omega
        · split at h
          · cases h; omega
          · cases h
theorem told_c : ∀ a : Fin 16, ∀ i : Fin 4, (nI a.val >>> (nI i.val &&& 31) &&& 1 = 0 ↔ a.val.testBit i.val = false) ∧ (nI a.val >>> (nI i.val &&& 31) &&& 1 = 1 ↔ a.val.testBit i.val = true) ∧ nI a.val ||| (1 <<< (nI i.val &&& 31)) = nI (a.val ||| 2 ^ i.val) ∧ a.val ||| 2 ^ i.val < 16 := by decide +kernel
theorem told_0 {a i : Nat} (ha : a < 16) (hi : i < 4) : nI a >>> (nI i &&& 31) &&& 1 = 0 ↔ a.testBit i = false := (told_c ⟨a, ha⟩ ⟨i, hi⟩).1
theorem told_1 {a i : Nat} (ha : a < 16) (hi : i < 4) : nI a >>> (nI i &&& 31) &&& 1 = 1 ↔ a.testBit i = true := (told_c ⟨a, ha⟩ ⟨i, hi⟩).2.1
theorem told_o {a i : Nat} (ha : a < 16) (hi : i < 4) : nI a ||| (1 <<< (nI i &&& 31)) = nI (a ||| 2 ^ i) := (told_c ⟨a, ha⟩ ⟨i, hi⟩).2.2.1
theorem told_l {a i : Nat} (ha : a < 16) (hi : i < 4) : a ||| 2 ^ i < 16 := (told_c ⟨a, ha⟩ ⟨i, hi⟩).2.2.2
theorem LK4 (K : Nat) : LK K ≤ 4 := by unfold LK; split <;> omega
theorem k44_0 : lkc 0 (kcode 44) = some (.iconst 0) := by decide +kernel
theorem k44_1 : lkc 1 (kcode 44) = some (.istore 5) := by decide +kernel
theorem k44_3 : lkc 3 (kcode 44) = some (.iconst 0) := by decide +kernel
theorem k44_4 : lkc 4 (kcode 44) = some (.istore 6) := by decide +kernel
theorem k44_6 : lkc 6 (kcode 44) = some (.iload 6) := by decide +kernel
theorem k44_8 : lkc 8 (kcode 44) = some (.aload_n 1) := by decide +kernel
theorem k44_9 : lkc 9 (kcode 44) = some (.arraylength) := by decide +kernel
theorem k44_10 : lkc 10 (kcode 44) = some (.if_icmp .gt 110) := by decide +kernel
theorem k44_13 : lkc 13 (kcode 44) = some (.aload_n 0) := by decide +kernel
theorem k44_14 : lkc 14 (kcode 44) = some (.invokevirtual 57) := by decide +kernel
theorem k44_17 : lkc 17 (kcode 44) = some (.istore 7) := by decide +kernel
theorem k44_19 : lkc 19 (kcode 44) = some (.iload 7) := by decide +kernel
theorem k44_21 : lkc 21 (kcode 44) = some (.iconst (-1)) := by decide +kernel
theorem k44_22 : lkc 22 (kcode 44) = some (.if_icmp .eq 10) := by decide +kernel
theorem k44_25 : lkc 25 (kcode 44) = some (.iload 7) := by decide +kernel
theorem k44_27 : lkc 27 (kcode 44) = some (.bipush 59) := by decide +kernel
theorem k44_29 : lkc 29 (kcode 44) = some (.if_icmp .ne 5) := by decide +kernel
theorem k44_32 : lkc 32 (kcode 44) = some (.iconst 1) := by decide +kernel
theorem k44_33 : lkc 33 (kcode 44) = some (.ireturn) := by decide +kernel
theorem k44_34 : lkc 34 (kcode 44) = some (.aload_n 1) := by decide +kernel
theorem k44_35 : lkc 35 (kcode 44) = some (.iload 7) := by decide +kernel
theorem k44_37 : lkc 37 (kcode 44) = some (.invokestatic 126) := by decide +kernel
theorem k44_40 : lkc 40 (kcode 44) = some (.istore 8) := by decide +kernel
theorem k44_42 : lkc 42 (kcode 44) = some (.iload 8) := by decide +kernel
theorem k44_44 : lkc 44 (kcode 44) = some (.iconst (-1)) := by decide +kernel
theorem k44_45 : lkc 45 (kcode 44) = some (.if_icmp .eq 21) := by decide +kernel
theorem k44_48 : lkc 48 (kcode 44) = some (.iload 5) := by decide +kernel
theorem k44_50 : lkc 50 (kcode 44) = some (.iload 8) := by decide +kernel
theorem k44_52 : lkc 52 (kcode 44) = some (.ishr) := by decide +kernel
theorem k44_53 : lkc 53 (kcode 44) = some (.iconst 1) := by decide +kernel
theorem k44_54 : lkc 54 (kcode 44) = some (.iand) := by decide +kernel
theorem k44_55 : lkc 55 (kcode 44) = some (.ifCond .ne 11) := by decide +kernel
theorem k44_58 : lkc 58 (kcode 44) = some (.iload 8) := by decide +kernel
theorem k44_60 : lkc 60 (kcode 44) = some (.aload 4) := by decide +kernel
theorem k44_62 : lkc 62 (kcode 44) = some (.arraylength) := by decide +kernel
theorem k44_63 : lkc 63 (kcode 44) = some (.if_icmp .lt 8) := by decide +kernel
theorem k44_66 : lkc 66 (kcode 44) = some (.aload_n 0) := by decide +kernel
theorem k44_67 : lkc 67 (kcode 44) = some (.invokevirtual 123) := by decide +kernel
theorem k44_70 : lkc 70 (kcode 44) = some (.ireturn) := by decide +kernel
theorem k44_71 : lkc 71 (kcode 44) = some (.iload 5) := by decide +kernel
theorem k44_73 : lkc 73 (kcode 44) = some (.iconst 1) := by decide +kernel
theorem k44_74 : lkc 74 (kcode 44) = some (.iload 8) := by decide +kernel
theorem k44_76 : lkc 76 (kcode 44) = some (.ishl) := by decide +kernel
theorem k44_77 : lkc 77 (kcode 44) = some (.ior) := by decide +kernel
theorem k44_78 : lkc 78 (kcode 44) = some (.istore 5) := by decide +kernel
theorem k44_80 : lkc 80 (kcode 44) = some (.aload_n 0) := by decide +kernel
theorem k44_81 : lkc 81 (kcode 44) = some (.invokevirtual 82) := by decide +kernel
theorem k44_84 : lkc 84 (kcode 44) = some (.aload_n 0) := by decide +kernel
theorem k44_85 : lkc 85 (kcode 44) = some (.iconst 2) := by decide +kernel
theorem k44_86 : lkc 86 (kcode 44) = some (.aload_n 2) := by decide +kernel
theorem k44_87 : lkc 87 (kcode 44) = some (.iload 8) := by decide +kernel
theorem k44_89 : lkc 89 (kcode 44) = some (.iaload) := by decide +kernel
theorem k44_90 : lkc 90 (kcode 44) = some (.aload_n 3) := by decide +kernel
theorem k44_91 : lkc 91 (kcode 44) = some (.iload 8) := by decide +kernel
theorem k44_93 : lkc 93 (kcode 44) = some (.iaload) := by decide +kernel
theorem k44_94 : lkc 94 (kcode 44) = some (.invokevirtual 130) := by decide +kernel
theorem k44_97 : lkc 97 (kcode 44) = some (.istore 9) := by decide +kernel
theorem k44_99 : lkc 99 (kcode 44) = some (.iload 9) := by decide +kernel
theorem k44_101 : lkc 101 (kcode 44) = some (.iconst (-1)) := by decide +kernel
theorem k44_102 : lkc 102 (kcode 44) = some (.if_icmp .ne 5) := by decide +kernel
theorem k44_105 : lkc 105 (kcode 44) = some (.iconst 0) := by decide +kernel
theorem k44_106 : lkc 106 (kcode 44) = some (.ireturn) := by decide +kernel
theorem k44_107 : lkc 107 (kcode 44) = some (.aload 4) := by decide +kernel
theorem k44_109 : lkc 109 (kcode 44) = some (.iload 8) := by decide +kernel
theorem k44_111 : lkc 111 (kcode 44) = some (.iload 9) := by decide +kernel
theorem k44_113 : lkc 113 (kcode 44) = some (.iastore) := by decide +kernel
theorem k44_114 : lkc 114 (kcode 44) = some (.iinc 6 1) := by decide +kernel
theorem k44_117 : lkc 117 (kcode 44) = some (.goto (-111)) := by decide +kernel
theorem k45_0 : lkc 0 (kcode 45) = some (.iconst 0) := by decide +kernel
theorem k45_1 : lkc 1 (kcode 45) = some (.istore_n 2) := by decide +kernel
theorem k45_2 : lkc 2 (kcode 45) = some (.iload_n 2) := by decide +kernel
theorem k45_3 : lkc 3 (kcode 45) = some (.aload_n 0) := by decide +kernel
theorem k45_4 : lkc 4 (kcode 45) = some (.arraylength) := by decide +kernel
theorem k45_5 : lkc 5 (kcode 45) = some (.if_icmp .ge 18) := by decide +kernel
theorem k45_8 : lkc 8 (kcode 45) = some (.aload_n 0) := by decide +kernel
theorem k45_9 : lkc 9 (kcode 45) = some (.iload_n 2) := by decide +kernel
theorem k45_10 : lkc 10 (kcode 45) = some (.caload) := by decide +kernel
theorem k45_11 : lkc 11 (kcode 45) = some (.iload_n 1) := by decide +kernel
theorem k45_12 : lkc 12 (kcode 45) = some (.if_icmp .ne 5) := by decide +kernel
theorem k45_15 : lkc 15 (kcode 45) = some (.iload_n 2) := by decide +kernel
theorem k45_16 : lkc 16 (kcode 45) = some (.ireturn) := by decide +kernel
theorem k45_17 : lkc 17 (kcode 45) = some (.iinc 2 1) := by decide +kernel
theorem k45_20 : lkc 20 (kcode 45) = some (.goto (-18)) := by decide +kernel
theorem k45_23 : lkc 23 (kcode 45) = some (.iconst (-1)) := by decide +kernel
theorem k45_24 : lkc 24 (kcode 45) = some (.ireturn) := by decide +kernel
/-! forward: the class's reader of a town's text: placeOf, readItems -/
theorem c_placeOf {m : xM} {L c : Nat} {s : Int32} (hl : lay c = (4, 3, L)) (hL : L ≤ 4) : fC 45 [.ref c, .int s] m (fun rv m' => ((∃ i, i < L ∧ rv = some (.int (nI i)) ∧ cst c i = s ∧ ∀ j, j < i → cst c j ≠ s) ∨ (rv = some (.int (-1)) ∧ ∀ j, j < L → cst c j ≠ s)) ∧ m = m') := by
  refine fC_of (by decide) (fun d n P H => ?_)
  have key : ∀ n k, k ≤ L → (∀ j, j < k → cst c j ≠ s) → xF 45 (xw d) P (n + 1) 2 [(2, .int (nI k)), (0, .ref c), (1, .int s)] [] m → ∃ rv m', P rv m' ∧ ((∃ i, i < L ∧ rv = some (.int (nI i)) ∧ cst c i = s ∧ ∀ j, j < i → cst c j ≠ s) ∨ (rv = some (.int (-1)) ∧ ∀ j, j < L → cst c j ≠ s)) ∧ m = m' := by
    intro n
    induction n with
    | zero => exact fun k _ _ H => (xF_0 (f1_iload_n H k45_2 rfl)).elim
    | succ n ih =>
      intro k hk hno H
      replace H := f1_iload_n H k45_2 rfl
      replace H := f_aload_n H k45_3 rfl
      replace H := f_alen H k45_4 (x := 3) (c := L) (Or.inr hl)
      replace H : xF 45 (xw d) P (n + 1) _ _ [.int (nI L), .int (nI k)] m := H
      have Hbr := f_icmp_ge H k45_5 (t := 23) (by decide)
      clear H
      rcases Hbr with ⟨c1, H⟩ | ⟨c1, H⟩
      · rw [nI_lt2 (by omega) (by omega)] at c1
        replace H := f_iconst H k45_23 (v := -1) (by decide)
        replace H := f_iret H k45_24
        exact ⟨_, _, H, Or.inr ⟨rfl, fun j hj => hno j (by omega)⟩, rfl⟩
      · rw [nI_lt2 (by omega) (by omega)] at c1
        replace H := f_aload_n H k45_8 rfl
        replace H := f_iload_n H k45_9 rfl
        have Hob := f_cald H k45_10 (c := L) hl
        clear H
        obtain ⟨hb10, H⟩ := Hob
        replace H := f_iload_n H k45_11 rfl
        rw [nI_clamp (by omega)] at H
        have Hbr := f_icmp_ne H k45_12 (t := 17) (by decide)
        clear H
        rcases Hbr with ⟨c2, H⟩ | ⟨c2, H⟩
        · replace H := f_iinc H k45_17 rfl (l2 := [(2, .int (nI k + 1)), (0, .ref c), (1, .int s)]) rfl
          replace H := f_goto H k45_20 (t := 2) (by decide)
          rw [nI_s] at H
          refine ih (k + 1) (by omega) (fun i hi => ?_) H
          by_cases e : i = k
          · rw [e]; exact c2
          · exact hno i (by omega)
        · replace H := f_iload_n H k45_15 rfl
          replace H := f_iret H k45_16
          exact ⟨_, _, H, Or.inl ⟨k, by omega, rfl, c2, hno⟩, rfl⟩
  replace H := f_iconst H k45_0 (v := 0) (by decide)
  replace H := f_istore_n H k45_1 (l2 := [(2, .int 0), (0, .ref c), (1, .int s)]) rfl
  exact key n 0 (by omega) (fun i hi => by omega) (f_up H (Nat.le_succ _))
/-- the tables of the kinds -/
def kTb (K lt le mo : Nat) : Prop := K < 3 ∧ lt = 1006 + 4 * K ∧ le = 1007 + 4 * K ∧ mo = 1008 + 4 * K
def kTbB (K : Nat) : Bool := decide (lay (1006 + 4 * K) = (4, 3, LK K)) && (decide (lay (1007 + 4 * K) = (4, 0, LK K)) && (decide (lay (1008 + 4 * K) = (4, 0, LK K)) && (decide (lay (1005 + 4 * K) = (4, 0, LK K)) && decide (lay (1002 + K) = (5, 2 + K, LK K)))))
def kTbC (K i : Nat) : Bool := decide (cst (1006 + 4 * K) i = cst (1002 + K) i) && (decide (0 ≤ (lsT K i).toInt) && (decide ((lsT K i).toInt ≤ (msT K i).toInt) && decide ((msT K i).toInt ≤ 99)))
theorem kTb_b : (List.range 3).all kTbB = true := by decide +kernel
theorem kTb_d : (List.range 3).all (fun K => (List.range (LK K)).all (kTbC K)) = true := by decide +kernel
theorem kTb_c {K : Nat} (hK : K < 3) : lay (1006 + 4 * K) = (4, 3, LK K) ∧ lay (1007 + 4 * K) = (4, 0, LK K) ∧ lay (1008 + 4 * K) = (4, 0, LK K) ∧ lay (1005 + 4 * K) = (4, 0, LK K) ∧ lay (1002 + K) = (5, 2 + K, LK K) := by
  have e := List.all_eq_true.mp kTb_b K (List.mem_range.mpr hK)
  unfold kTbB at e
  rw [Bool.and_eq_true, Bool.and_eq_true, Bool.and_eq_true, Bool.and_eq_true] at e
  exact ⟨of_decide_eq_true e.1, of_decide_eq_true e.2.1, of_decide_eq_true e.2.2.1, of_decide_eq_true e.2.2.2.1, of_decide_eq_true e.2.2.2.2⟩
theorem kTb_e {K i : Nat} (hK : K < 3) (hi : i < LK K) : cst (1006 + 4 * K) i = cst (1002 + K) i ∧ 0 ≤ (lsT K i).toInt ∧ (lsT K i).toInt ≤ (msT K i).toInt ∧ (msT K i).toInt ≤ 99 := by
  have e := List.all_eq_true.mp (List.all_eq_true.mp kTb_d K (List.mem_range.mpr hK)) i (List.mem_range.mpr hi)
  unfold kTbC at e
  rw [Bool.and_eq_true, Bool.and_eq_true, Bool.and_eq_true] at e
  exact ⟨of_decide_eq_true e.1, of_decide_eq_true e.2.1, of_decide_eq_true e.2.2.1, of_decide_eq_true e.2.2.2⟩
/-- nothing but row R and the tape's head and fault has changed -/
def agR (R : Nat) (m m' : xM) : Prop := (∀ a i, ¬ (a = R) → ¬ (a = 1 ∧ (i = 2 ∨ i = 3)) → m'.1 a i = m.1 a i) ∧ m'.2 = m.2
theorem agR_tr {R : Nat} {m1 m2 m3 : xM} (h1 : agR R m1 m2) (h2 : agR R m2 m3) : agR R m1 m3 := ⟨fun a i ha hi => (h2.1 a i ha hi).trans (h1.1 a i ha hi), h2.2.trans h1.2⟩
theorem agR_0 {R : Nat} {m : xM} : agR R m m := ⟨fun _ _ _ _ => rfl, rfl⟩
theorem agR_h {R i : Nat} {m : xM} {v : Int32} (hi : i = 2 ∨ i = 3) : agR R m (mI m 1 i v) := ⟨fun a j _ h => mI_ne (fun z => h ⟨z.1, by omega⟩), rfl⟩
theorem agR_r {R i : Nat} {m : xM} {v : Int32} : agR R m (mI m R i v) := ⟨fun a j h _ => mI_ne (fun z => h z.1), rfl⟩
theorem tpS_ag {R N h : Nat} {m m' : xM} (hR : R ≠ 1) (h1 : tpS m N h) (ha : agR R m m') (h2 : m'.1 1 2 = nI h) : tpS m' N h := by
  obtain ⟨e1, e2, hN, hh, e3⟩ := h1
  exact ⟨by rw [ha.1 1 1 (by omega) (by omega)]; exact e1, h2, hN, hh, by rw [ha.2]; exact e3⟩
def itO (N : Nat) (t : Nat → Int32) (L R : Nat) (m : xM) (r : ((Nat → Int32) × Nat) ⊕ Nat) (rv : Option Value) (m' : xM) : Prop := agR R m m' ∧ ((∃ row p, r = .inl (row, p) ∧ rv = some (.int 1) ∧ m'.1 1 2 = nI p ∧ p ≤ N ∧ (atv N t p = -1 ∨ atv N t p = 59) ∧ sk N t p = p ∧ ∀ i, i < L → m'.1 R i = row i) ∨ (∃ w, r = .inr w ∧ w ≤ N ∧ rv = some (.int 0) ∧ m'.1 1 3 = nI w))
theorem rdg_ge {N : Nat} {t : Nat → Int32} : ∀ D h v, h ≤ (rdg N t D h v).1 := by
  intro D
  induction D with
  | zero => exact fun h v => Nat.le_refl h
  | succ D ih =>
    intro h v
    unfold rdg
    split
    · exact Nat.le_trans (Nat.le_succ h) (ih _ _)
    · exact Nat.le_refl h
theorem told_ne {a i : Nat} (ha : a < 16) (hi : i < 4) (h : nI a >>> (nI i &&& 31) &&& 1 ≠ 0) : a.testBit i = true := by
  cases e : a.testBit i with
  | true => rfl
  | false => exact absurd ((told_0 ha hi).mpr e) h
def pcn (a : Nat) : Nat := (a.testBit 0).toNat + (a.testBit 1).toNat + (a.testBit 2).toNat + (a.testBit 3).toNat
set_option maxRecDepth 100000 in
theorem pcn_c : ∀ a : Fin 16, (∀ i : Fin 4, a.val.testBit i.val = false → pcn (a.val ||| 2 ^ i.val) = pcn a.val + 1) ∧ (∀ i : Fin 4, ∀ j : Fin 4, i ≠ j → a.val.testBit j.val = false → (a.val ||| 2 ^ i.val).testBit j.val = false) ∧ ((∀ j : Fin 4, 2 ≤ j.val → a.val.testBit j.val = false) → pcn a.val ≤ 2) ∧ pcn a.val ≤ 4 := by decide +kernel
theorem pcn_s {a i : Nat} (ha : a < 16) (hi : i < 4) (h : a.testBit i = false) : pcn (a ||| 2 ^ i) = pcn a + 1 := (pcn_c ⟨a, ha⟩).1 ⟨i, hi⟩ h
theorem told_k {a i : Nat} {j : Fin 4} (ha : a < 16) (hi : i < 4) (hij : i ≠ j.val) (h : a.testBit j.val = false) : (a ||| 2 ^ i).testBit j.val = false := (pcn_c ⟨a, ha⟩).2.1 ⟨i, hi⟩ j (fun z => hij (by rw [← z])) h
theorem pcn_le {a L : Nat} (ha : a < 16) (hL : L = 2 ∨ L = 4) (h : ∀ j : Fin 4, L ≤ j.val → a.testBit j.val = false) : pcn a ≤ L := by
  rcases hL with rfl | rfl
  · exact (pcn_c ⟨a, ha⟩).2.2.1 h
  · exact (pcn_c ⟨a, ha⟩).2.2.2
theorem num_c {N h : Nat} {l mo : Int32} {m m' : xM} {rv : Option Value} (hn : nuF N 2 l mo h m rv m') : (∃ w, numT N (m.1 2) l mo h = .inr w ∧ w ≤ N ∧ rv = some (.int (-1)) ∧ ((∀ R a i, ¬ (a = R) → ¬ (a = 1 ∧ (i = 2 ∨ i = 3)) → m'.1 a i = m.1 a i) ∧ m'.2 = m.2) ∧ m'.1 1 3 = nI w) ∨ (∃ v h2, numT N (m.1 2) l mo h = .inl (v, h2) ∧ h2 ≤ N ∧ rv = some (.int v) ∧ l ≤ v ∧ v ≤ mo ∧ m' = mI m 1 2 (nI h2)) := by
  unfold nuF nuG at hn
  unfold numT
  generalize rdg N (m.1 2) 2 (sk N (m.1 2) h) 0 = q at *
  generalize sk N (m.1 2) h = p at *
  obtain ⟨h1, h2, hn⟩ := hn
  rcases hn with ⟨hb, rfl, rfl⟩ | ⟨hb, ho, rfl, rfl⟩ | ⟨hb, ho, rfl, rfl⟩
  · rw [if_pos hb]
    exact Or.inl ⟨q.1, rfl, h1, rfl, ⟨fun R a i _ h => by rw [mI_ne (fun z => h ⟨z.1, Or.inr z.2⟩), mI_ne (fun z => h ⟨z.1, Or.inl z.2⟩)], rfl⟩, mI_at⟩
  · rw [if_neg hb, if_pos ho]
    exact Or.inl ⟨q.1 - 1, rfl, by omega, rfl, ⟨fun R a i _ h => by rw [mI_ne (fun z => h ⟨z.1, Or.inr z.2⟩), mI_ne (fun z => h ⟨z.1, Or.inl z.2⟩)], rfl⟩, mI_at⟩
  · rw [if_neg hb, if_neg ho]
    exact Or.inr ⟨q.2, q.1, rfl, h1, rfl, Int32.not_lt.mp (fun z => ho (Or.inl z)), Int32.not_lt.mp (fun z => ho (Or.inr z)), rfl⟩
set_option maxHeartbeats 4000000 in
theorem c_readItems {m : xM} {N h K lt le mo R : Nat} {t row : Nat → Int32} (hK : kTb K lt le mo) (hR : lay R = (0, 0, LK K)) (hR2 : 2 < R) (hm : tpS m N h) (ht : m.1 2 = t) (hrow : ∀ i, i < LK K → m.1 R i = row i) : fC 44 [.ref 1, .ref lt, .ref le, .ref mo, .ref R] m (itO N t (LK K) R m (itm N t K 5 0 row h)) := by
  refine fC_of (by decide) (fun d n P H => ?_)
  obtain ⟨hK3, rfl, rfl, rfl⟩ := hK
  obtain ⟨y1, y2, y3, -, -⟩ := kTb_c hK3
  have hL4 : LK K ≤ 4 := LK4 K
  obtain ⟨lt, hlt⟩ : ∃ q, q = 1006 + 4 * K := ⟨_, rfl⟩
  obtain ⟨le, hle⟩ : ∃ q, q = 1007 + 4 * K := ⟨_, rfl⟩
  obtain ⟨mo, hmo⟩ : ∃ q, q = 1008 + 4 * K := ⟨_, rfl⟩
  rw [← hlt, ← hle, ← hmo] at H
  have y1 : lay lt = (4, 3, LK K) := by rw [hlt]; exact y1
  have y2 : lay le = (4, 0, LK K) := by rw [hle]; exact y2
  have y3 : lay mo = (4, 0, LK K) := by rw [hmo]; exact y3
  have z1 : ∀ i, i < LK K → cst lt i = cst (1002 + K) i := fun i hi => by rw [hlt]; exact (kTb_e hK3 hi).1
  have z2 : ∀ i, cst le i = lsT K i := fun i => by rw [hle]; rfl
  have z3 : ∀ i, cst mo i = msT K i := fun i => by rw [hmo]; rfl
  have hN := hm.2.2.1
  have key : ∀ n k a f h2 m2 row w7 w8 w9, k + f = 5 → a < 16 → tpS m2 N h2 → m2.1 2 = t → agR R m m2 → (∀ i, i < LK K → m2.1 R i = row i) → pcn a = k → (∀ j : Fin 4, LK K ≤ j.val → a.testBit j.val = false) → xF 44 (xw d) P (n + 1) 6 [(6, .int (nI k)), (5, .int (nI a)), (7, .int w7), (8, .int w8), (9, .int w9), (0, .ref 1), (1, .ref lt), (2, .ref le), (3, .ref mo), (4, .ref R)] [] m2 → ∃ rv m', P rv m' ∧ itO N t (LK K) R m (itm N t K f a row h2) rv m' := by
    intro n
    induction n with
    | zero => exact fun k a f h2 m2 row w7 w8 w9 _ _ _ _ _ _ _ _ H => (xF_0 (f1_iload H k44_6 rfl)).elim
    | succ n ih =>
      intro k a f h2 m2 row w7 w8 w9 hkf ha hm2 ht2 hag hrow hpc hbits H
      have hkL : k ≤ LK K := by rw [← hpc]; exact pcn_le ha (LK24 K) hbits
      obtain ⟨f, rfl⟩ : ∃ g, f = g + 1 := ⟨f - 1, by omega⟩
      have hh : h2 ≤ N := hm2.2.2.2.1
      have hp : sk N t h2 ≤ N := sk_le hh
      have hsk : sk N t (sk N t h2) = sk N t h2 := sk_sk hh
      have hit : itm N t K (f + 1) a row h2 = itB N t K a row (sk N t h2) (atv N t (sk N t h2)) (itm N t K f) := rfl
      rw [hit]
      replace H := f1_iload H k44_6 rfl
      replace H := f_aload_n H k44_8 rfl
      replace H := f_alen H k44_9 (x := 3) (c := (LK K)) (Or.inr y1)
      replace H : xF 44 (xw d) P (n + 1) _ _ [.int (nI (LK K)), .int (nI k)] m2 := H
      replace H := f_icmp_gt_f H k44_10 (fun z => by rw [Int32.lt_iff_toInt_lt, nI_toInt (by omega), nI_toInt (by omega)] at z; omega)
      replace H := f_aload_n H k44_13 rfl
      obtain ⟨rv, m3, ⟨rfl, e9⟩, h9_14⟩ := f_inv H k44_14 (by decide +kernel) (as := []) (b := 1) (r := []) (by rfl) (c_ahead hm2)
      replace H := h9_14
      rw [ht2] at H e9
      have hm3 : tpS m3 N (sk N t h2) := by rw [e9]; exact tpS_h hm2 hp
      have hag3 : agR R m m3 := by rw [e9]; exact agR_tr hag (agR_h (Or.inl rfl))
      have ht3 : m3.1 2 = t := by rw [e9, mI_row]; exact ht2
      have hrow3 : ∀ i, i < LK K → m3.1 R i = row i := fun i hi => by rw [e9, mI_ne (by omega)]; exact hrow i hi
      clear e9
      generalize sk N t h2 = p at *
      have hlt : atv N t p ≠ -1 → p < N := fun z => by
        by_cases h9 : p < N
        · exact h9
        · exact absurd (by unfold atv; rw [if_neg h9]) z
      generalize hse : atv N t p = s at *
      have stop : (s = -1 ∨ s = 59) → ∀ n w7 w8 w9, xF 44 (xw d) P n 32 [(7, .int w7), (6, .int (nI k)), (5, .int (nI a)), (8, .int w8), (9, .int w9), (0, .ref 1), (1, .ref lt), (2, .ref le), (3, .ref mo), (4, .ref R)] [] m3 → ∃ rv m', P rv m' ∧ itO N t (LK K) R m (itB N t K a row p s (itm N t K f)) rv m' := by
        intro hs n w7 w8 w9 H
        replace H := f_iconst H k44_32 (v := 1) (by decide)
        replace H := f_iret H k44_33
        rw [itB_1 hs]
        exact ⟨_, _, H, hag3, Or.inl ⟨row, p, rfl, rfl, hm3.2.1, hp, by rw [hse]; exact hs, hsk, hrow3⟩⟩
      replace H := f_istore H k44_17 (l2 := [(7, .int _), (6, .int (nI k)), (5, .int (nI a)), (8, .int w8), (9, .int w9), (0, .ref 1), (1, .ref lt), (2, .ref le), (3, .ref mo), (4, .ref R)]) rfl
      replace H := f_iload H k44_19 rfl
      replace H := f_iconst H k44_21 (v := -1) (by decide)
      have Hbr := f_icmp_eq H k44_22 (t := 32) (by decide)
      clear H
      rcases Hbr with ⟨c1, H⟩ | ⟨c1, H⟩
      · exact stop (Or.inl c1) _ _ _ _ H
      replace H := f_iload H k44_25 rfl
      replace H := f_bipush H k44_27 (v := 59) (by decide)
      have Hbr := f_icmp_ne H k44_29 (t := 34) (by decide)
      clear H
      rcases Hbr with ⟨c2, H⟩ | ⟨c2, H⟩
      · have hns : ¬ (s = -1 ∨ s = 59) := fun z => z.elim c1 c2
        have refuse : ∀ n w7 w8 w9, (∃ x : ((Nat → Int32) × Nat) ⊕ Nat, x = .inr p) → xF 44 (xw d) P n 66 [(8, .int w8), (7, .int w7), (6, .int (nI k)), (5, .int (nI a)), (9, .int w9), (0, .ref 1), (1, .ref lt), (2, .ref le), (3, .ref mo), (4, .ref R)] [] m3 → ∃ rv m', P rv m' ∧ itO N t (LK K) R m (.inr p) rv m' := by
          intro n w7 w8 w9 _ H
          replace H := f_aload_n H k44_66 rfl
          obtain ⟨rv, m', ⟨rfl, rfl⟩, h9_67⟩ := f_inv H k44_67 (by decide +kernel) (as := []) (b := 1) (r := []) (by rfl) (c_refuseHere hm3)
          replace H := h9_67
          replace H := f_iret H k44_70
          exact ⟨_, _, H, agR_tr hag3 (agR_h (Or.inr rfl)), Or.inr ⟨p, rfl, hp, rfl, mI_at⟩⟩
        replace H := f_aload_n H k44_34 rfl
        replace H := f_iload H k44_35 rfl
        obtain ⟨rv, m4, ⟨ho, rfl⟩, h9_37⟩ := f_ins H k44_37 (by decide +kernel) (as := [.ref lt, .int _]) (r := []) (by rfl) (c_placeOf y1 hL4)
        replace H := h9_37
        rcases ho with ⟨i, hi, rfl, hc, hno⟩ | ⟨rfl, hno⟩
        · have hpl : plc K s = some i := plc_i hi (by rw [← z1 i hi]; exact hc) (fun j hj => by rw [← z1 j (by omega)]; exact hno j hj)
          replace H := f_istore H k44_40 (l2 := [(8, .int _), (7, .int _), (6, .int (nI k)), (5, .int (nI a)), (9, .int w9), (0, .ref 1), (1, .ref lt), (2, .ref le), (3, .ref mo), (4, .ref R)]) rfl
          replace H := f_iload H k44_42 rfl
          replace H := f_iconst H k44_44 (v := -1) (by decide)
          replace H := f_icmp_eq_f H k44_45 (nI_n1 (N := 4) (by omega) (by omega))
          replace H := f_iload H k44_48 rfl
          replace H := f_iload H k44_50 rfl
          replace H := f_ishr H k44_52
          replace H := f_iconst H k44_53 (v := 1) (by decide)
          replace H := f_iand H k44_54
          have Hbr := f_if_ne H k44_55 (t := 66) (by decide)
          clear H
          rcases Hbr with ⟨c3, H⟩ | ⟨c3, H⟩
          · rw [itB_3 hns hpl (told_ne ha (by omega) c3)]
            exact refuse _ _ _ _ ⟨_, rfl⟩ H
          have c4 : a.testBit i = false := (told_0 ha (by omega)).mp c3
          replace H := f_iload H k44_58 rfl
          replace H := f_aload H k44_60 rfl
          replace H := f_alen H k44_62 (x := 0) (c := (LK K)) (Or.inl hR)
          replace H : xF 44 (xw d) P (n + 1) _ _ [.int (nI (LK K)), .int (nI i)] m3 := H
          replace H := f_icmp_lt_t H k44_63 (by rw [Int32.lt_iff_toInt_lt, nI_toInt (by omega), nI_toInt (by omega)]; omega) (t := 71) (by decide)
          replace H := f_iload H k44_71 rfl
          replace H := f_iconst H k44_73 (v := 1) (by decide)
          replace H := f_iload H k44_74 rfl
          replace H := f_ishl H k44_76
          replace H := f_ior H k44_77
          replace H := f_istore H k44_78 (l2 := [(5, .int _), (8, .int _), (7, .int _), (6, .int (nI k)), (9, .int w9), (0, .ref 1), (1, .ref lt), (2, .ref le), (3, .ref mo), (4, .ref R)]) rfl
          replace H := f_aload_n H k44_80 rfl
          rw [told_o ha (by omega)] at H
          obtain ⟨rv, m5, ⟨rfl, e9⟩, h9_81⟩ := f_inv H k44_81 (by decide +kernel) (as := []) (b := 1) (r := []) (by rfl) (c_step hm3)
          replace H := h9_81
          have hpN : p < N := hlt c1
          have hm5 : tpS m5 N (p + 1) := by rw [e9]; exact tpS_h hm3 hpN
          have hag5 : agR R m m5 := by rw [e9]; exact agR_tr hag3 (agR_h (Or.inl rfl))
          have ht5 : m5.1 2 = t := by rw [e9, mI_row]; exact ht3
          have hrow5 : ∀ i, i < LK K → m5.1 R i = row i := fun i hi => by rw [e9, mI_ne (by omega)]; exact hrow3 i hi
          clear e9
          replace H := f_aload_n H k44_84 rfl
          replace H := f_iconst H k44_85 (v := 2) (by decide)
          replace H := f_aload_n H k44_86 rfl
          replace H := f_iload H k44_87 rfl
          have Hob := f_iald4 H k44_89 (c := (LK K)) y2
          clear H
          obtain ⟨hb89, H⟩ := Hob
          replace H := f_aload_n H k44_90 rfl
          replace H := f_iload H k44_91 rfl
          have Hob := f_iald4 H k44_93 (c := (LK K)) y3
          clear H
          obtain ⟨hb93, H⟩ := Hob
          rw [nI_clamp (by omega), z2, z3] at H
          obtain ⟨rv, m6, hn, h9_94⟩ := f_inv H k44_94 (by decide +kernel) (as := [.int _, .int _, .int _]) (b := 1) (r := []) (by rfl) (c_takeNumber (D := 2) hm5 (by decide))
          replace H := h9_94
          rcases num_c hn with ⟨w, x1, x2, rfl, x4, x5⟩ | ⟨v, h3, x1, x2, rfl, x4, x5, rfl⟩
          · rw [ht5] at x1
            rw [itB_4 hns hpl c4 x1]
            replace H := f_istore H k44_97 (l2 := [(9, .int _), (5, .int _), (8, .int _), (7, .int _), (6, .int (nI k)), (0, .ref 1), (1, .ref lt), (2, .ref le), (3, .ref mo), (4, .ref R)]) rfl
            replace H := f_iload H k44_99 rfl
            replace H := f_iconst H k44_101 (v := -1) (by decide)
            replace H := f_icmp_ne_f H k44_102 rfl
            replace H := f_iconst H k44_105 (v := 0) (by decide)
            replace H := f_iret H k44_106
            refine ⟨_, _, H, agR_tr hag5 ⟨x4.1 R, x4.2⟩, Or.inr ⟨w, rfl, x2, rfl, x5⟩⟩
          · rw [ht5] at x1
            rw [itB_5 hns hpl c4 x1]
            obtain ⟨-, y7, y8, y9⟩ := kTb_e hK3 hi
            replace H := f_istore H k44_97 (l2 := [(9, .int _), (5, .int _), (8, .int _), (7, .int _), (6, .int (nI k)), (0, .ref 1), (1, .ref lt), (2, .ref le), (3, .ref mo), (4, .ref R)]) rfl
            replace H := f_iload H k44_99 rfl
            replace H := f_iconst H k44_101 (v := -1) (by decide)
            replace H := f_icmp_ne_t H k44_102 (fun z => by rw [z, Int32.le_iff_toInt_le, show (-1 : Int32).toInt = -1 by decide] at x4; omega) (t := 107) (by decide)
            replace H := f_aload H k44_107 rfl
            replace H := f_iload H k44_109 rfl
            replace H := f_iload H k44_111 rfl
            have Hob := f_iast H k44_113 (c := (LK K)) hR
            clear H
            obtain ⟨hb113, H⟩ := Hob
            replace H := f_iinc H k44_114 rfl (l2 := [(6, .int ((nI k) + 1)), (9, .int _), (5, .int (nI (a ||| 2 ^ i))), (8, .int _), (7, .int _), (0, .ref 1), (1, .ref lt), (2, .ref le), (3, .ref mo), (4, .ref R)]) rfl
            replace H := f_goto H k44_117 (t := 6) (by decide)
            rw [nI_s, nI_clamp (by omega)] at H
            have hm6 := tpS_h hm5 x2
            refine ih (k + 1) (a ||| 2 ^ i) f h3 _ _ _ _ _ (by omega) (told_l ha (by omega)) (tpS_ag (R := R) (by omega) hm6 agR_r (by rw [mI_ne (by omega)]; exact hm6.2.1)) ?_ (agR_tr (agR_tr hag5 (agR_h (Or.inl rfl))) agR_r) ?_ ?_ ?_ (f_ext H (lE_cons rfl (lE_cons rfl (lE_cons rfl (lE_cons rfl (lE_cons rfl (lE_cons rfl (lE_cons rfl (lE_cons rfl (lE_cons rfl (lE_cons rfl lE_nil)))))))))) rfl rfl)
            · rw [← ht5]; exact funext fun j => by rw [mI_ne (by omega), mI_ne (by omega)]
            · intro j hj
              by_cases e : j = i
              · rw [e, mI_at, if_pos rfl]
              · rw [mI_ne (fun z => e z.2), mI_ne (by omega), if_neg e]
                exact hrow5 j hj
            · rw [pcn_s ha (by omega) c4, hpc]
            · intro j hj
              exact told_k ha (by omega) (by omega) (hbits j hj)
        · rw [itB_2 hns (plc_n (fun j hj => by rw [← z1 j hj]; exact hno j hj))]
          replace H := f_istore H k44_40 (l2 := [(8, .int _), (7, .int _), (6, .int (nI k)), (5, .int (nI a)), (9, .int w9), (0, .ref 1), (1, .ref lt), (2, .ref le), (3, .ref mo), (4, .ref R)]) rfl
          replace H := f_iload H k44_42 rfl
          replace H := f_iconst H k44_44 (v := -1) (by decide)
          replace H := f_icmp_eq_t H k44_45 rfl (t := 66) (by decide)
          exact refuse _ _ _ _ ⟨_, rfl⟩ H
      · exact stop (Or.inr c2) _ _ _ _ H
  replace H := f_iconst H k44_0 (v := 0) (by decide)
  replace H := f_istore H k44_1 (l2 := [(5, .int 0), (0, .ref 1), (1, .ref lt), (2, .ref le), (3, .ref mo), (4, .ref R)]) rfl
  replace H := f_iconst H k44_3 (v := 0) (by decide)
  replace H := f_istore H k44_4 (l2 := [(6, .int 0), (5, .int 0), (0, .ref 1), (1, .ref lt), (2, .ref le), (3, .ref mo), (4, .ref R)]) rfl
  exact key n 0 0 5 h m row 0 0 0 rfl (by omega) hm ht agR_0 hrow rfl (fun j _ => by simp) (f_ext (f_up H (Nat.le_succ _)) (lE_cons rfl (lE_cons rfl (lE_cons rfl (lE_cons rfl (lE_cons rfl (lE_cons rfl (lE_cons rfl lE_nil))))))) rfl rfl)
theorem k43_0 : lkc 0 (kcode 43) = some (.aload_n 1) := by decide +kernel
theorem k43_1 : lkc 1 (kcode 43) = some (.invokevirtual 57) := by decide +kernel
theorem k43_4 : lkc 4 (kcode 43) = some (.istore_n 2) := by decide +kernel
theorem k43_5 : lkc 5 (kcode 43) = some (.iload_n 2) := by decide +kernel
theorem k43_6 : lkc 6 (kcode 43) = some (.bipush 115) := by decide +kernel
theorem k43_8 : lkc 8 (kcode 43) = some (.if_icmp .ne 37) := by decide +kernel
theorem k43_11 : lkc 11 (kcode 43) = some (.aload_n 0) := by decide +kernel
theorem k43_12 : lkc 12 (kcode 43) = some (.getfield 75) := by decide +kernel
theorem k43_15 : lkc 15 (kcode 43) = some (.ifCond .ne 30) := by decide +kernel
theorem k43_18 : lkc 18 (kcode 43) = some (.aload_n 0) := by decide +kernel
theorem k43_19 : lkc 19 (kcode 43) = some (.iconst 1) := by decide +kernel
theorem k43_20 : lkc 20 (kcode 43) = some (.putfield 75) := by decide +kernel
theorem k43_23 : lkc 23 (kcode 43) = some (.aload_n 1) := by decide +kernel
theorem k43_24 : lkc 24 (kcode 43) = some (.invokevirtual 82) := by decide +kernel
theorem k43_27 : lkc 27 (kcode 43) = some (.aload_n 1) := by decide +kernel
theorem k43_28 : lkc 28 (kcode 43) = some (.getstatic 85) := by decide +kernel
theorem k43_31 : lkc 31 (kcode 43) = some (.getstatic 89) := by decide +kernel
theorem k43_34 : lkc 34 (kcode 43) = some (.getstatic 92) := by decide +kernel
theorem k43_37 : lkc 37 (kcode 43) = some (.aload_n 0) := by decide +kernel
theorem k43_38 : lkc 38 (kcode 43) = some (.getfield 9) := by decide +kernel
theorem k43_41 : lkc 41 (kcode 43) = some (.invokestatic 95) := by decide +kernel
theorem k43_44 : lkc 44 (kcode 43) = some (.ireturn) := by decide +kernel
theorem k43_45 : lkc 45 (kcode 43) = some (.iload_n 2) := by decide +kernel
theorem k43_46 : lkc 46 (kcode 43) = some (.bipush 101) := by decide +kernel
theorem k43_48 : lkc 48 (kcode 43) = some (.if_icmp .ne 61) := by decide +kernel
theorem k43_51 : lkc 51 (kcode 43) = some (.aload_n 0) := by decide +kernel
theorem k43_52 : lkc 52 (kcode 43) = some (.getfield 30) := by decide +kernel
theorem k43_55 : lkc 55 (kcode 43) = some (.bipush 12) := by decide +kernel
theorem k43_57 : lkc 57 (kcode 43) = some (.if_icmp .ge 52) := by decide +kernel
theorem k43_60 : lkc 60 (kcode 43) = some (.aload_n 0) := by decide +kernel
theorem k43_61 : lkc 61 (kcode 43) = some (.getfield 17) := by decide +kernel
theorem k43_64 : lkc 64 (kcode 43) = some (.aload_n 0) := by decide +kernel
theorem k43_65 : lkc 65 (kcode 43) = some (.getfield 30) := by decide +kernel
theorem k43_68 : lkc 68 (kcode 43) = some (.aaload) := by decide +kernel
theorem k43_69 : lkc 69 (kcode 43) = some (.astore_n 3) := by decide +kernel
theorem k43_70 : lkc 70 (kcode 43) = some (.aload_n 0) := by decide +kernel
theorem k43_71 : lkc 71 (kcode 43) = some (.dup) := by decide +kernel
theorem k43_72 : lkc 72 (kcode 43) = some (.getfield 30) := by decide +kernel
theorem k43_75 : lkc 75 (kcode 43) = some (.iconst 1) := by decide +kernel
theorem k43_76 : lkc 76 (kcode 43) = some (.iadd) := by decide +kernel
theorem k43_77 : lkc 77 (kcode 43) = some (.putfield 30) := by decide +kernel
theorem k43_80 : lkc 80 (kcode 43) = some (.getstatic 99) := by decide +kernel
theorem k43_83 : lkc 83 (kcode 43) = some (.iconst 0) := by decide +kernel
theorem k43_84 : lkc 84 (kcode 43) = some (.aload_n 3) := by decide +kernel
theorem k43_85 : lkc 85 (kcode 43) = some (.iconst 0) := by decide +kernel
theorem k43_86 : lkc 86 (kcode 43) = some (.iconst 4) := by decide +kernel
theorem k43_87 : lkc 87 (kcode 43) = some (.invokestatic 36) := by decide +kernel
theorem k43_90 : lkc 90 (kcode 43) = some (.aload_n 1) := by decide +kernel
theorem k43_91 : lkc 91 (kcode 43) = some (.invokevirtual 82) := by decide +kernel
theorem k43_94 : lkc 94 (kcode 43) = some (.aload_n 1) := by decide +kernel
theorem k43_95 : lkc 95 (kcode 43) = some (.getstatic 102) := by decide +kernel
theorem k43_98 : lkc 98 (kcode 43) = some (.getstatic 105) := by decide +kernel
theorem k43_101 : lkc 101 (kcode 43) = some (.getstatic 108) := by decide +kernel
theorem k43_104 : lkc 104 (kcode 43) = some (.aload_n 3) := by decide +kernel
theorem k43_105 : lkc 105 (kcode 43) = some (.invokestatic 95) := by decide +kernel
theorem k43_108 : lkc 108 (kcode 43) = some (.ireturn) := by decide +kernel
theorem k43_109 : lkc 109 (kcode 43) = some (.iload_n 2) := by decide +kernel
theorem k43_110 : lkc 110 (kcode 43) = some (.bipush 112) := by decide +kernel
theorem k43_112 : lkc 112 (kcode 43) = some (.if_icmp .ne 60) := by decide +kernel
theorem k43_115 : lkc 115 (kcode 43) = some (.aload_n 0) := by decide +kernel
theorem k43_116 : lkc 116 (kcode 43) = some (.getfield 33) := by decide +kernel
theorem k43_119 : lkc 119 (kcode 43) = some (.iconst 4) := by decide +kernel
theorem k43_120 : lkc 120 (kcode 43) = some (.if_icmp .ge 52) := by decide +kernel
theorem k43_123 : lkc 123 (kcode 43) = some (.aload_n 0) := by decide +kernel
theorem k43_124 : lkc 124 (kcode 43) = some (.getfield 20) := by decide +kernel
theorem k43_127 : lkc 127 (kcode 43) = some (.aload_n 0) := by decide +kernel
theorem k43_128 : lkc 128 (kcode 43) = some (.getfield 33) := by decide +kernel
theorem k43_131 : lkc 131 (kcode 43) = some (.aaload) := by decide +kernel
theorem k43_132 : lkc 132 (kcode 43) = some (.astore_n 3) := by decide +kernel
theorem k43_133 : lkc 133 (kcode 43) = some (.aload_n 0) := by decide +kernel
theorem k43_134 : lkc 134 (kcode 43) = some (.dup) := by decide +kernel
theorem k43_135 : lkc 135 (kcode 43) = some (.getfield 33) := by decide +kernel
theorem k43_138 : lkc 138 (kcode 43) = some (.iconst 1) := by decide +kernel
theorem k43_139 : lkc 139 (kcode 43) = some (.iadd) := by decide +kernel
theorem k43_140 : lkc 140 (kcode 43) = some (.putfield 33) := by decide +kernel
theorem k43_143 : lkc 143 (kcode 43) = some (.getstatic 111) := by decide +kernel
theorem k43_146 : lkc 146 (kcode 43) = some (.iconst 0) := by decide +kernel
theorem k43_147 : lkc 147 (kcode 43) = some (.aload_n 3) := by decide +kernel
theorem k43_148 : lkc 148 (kcode 43) = some (.iconst 0) := by decide +kernel
theorem k43_149 : lkc 149 (kcode 43) = some (.iconst 2) := by decide +kernel
theorem k43_150 : lkc 150 (kcode 43) = some (.invokestatic 36) := by decide +kernel
theorem k43_153 : lkc 153 (kcode 43) = some (.aload_n 1) := by decide +kernel
theorem k43_154 : lkc 154 (kcode 43) = some (.invokevirtual 82) := by decide +kernel
theorem k43_157 : lkc 157 (kcode 43) = some (.aload_n 1) := by decide +kernel
theorem k43_158 : lkc 158 (kcode 43) = some (.getstatic 114) := by decide +kernel
theorem k43_161 : lkc 161 (kcode 43) = some (.getstatic 117) := by decide +kernel
theorem k43_164 : lkc 164 (kcode 43) = some (.getstatic 120) := by decide +kernel
theorem k43_167 : lkc 167 (kcode 43) = some (.aload_n 3) := by decide +kernel
theorem k43_168 : lkc 168 (kcode 43) = some (.invokestatic 95) := by decide +kernel
theorem k43_171 : lkc 171 (kcode 43) = some (.ireturn) := by decide +kernel
theorem k43_172 : lkc 172 (kcode 43) = some (.aload_n 1) := by decide +kernel
theorem k43_173 : lkc 173 (kcode 43) = some (.invokevirtual 123) := by decide +kernel
theorem k43_176 : lkc 176 (kcode 43) = some (.ireturn) := by decide +kernel
/-! forward: the class's reader of a town's text: clauses, soundness, the whole -/
/-- the draft holds what is told -/
def clS (m : xM) (S : tST) : Prop := m.1 24 1 = nI S.1 ∧ m.1 24 2 = nI S.2.1 ∧ m.1 24 3 = (if S.2.2.1 then 1 else 0) ∧ (∀ i, i < 2 → m.1 25 i = S.2.2.2 0 0 i) ∧ (∀ s i, s < S.1 → i < 4 → m.1 (27 + s) i = S.2.2.2 1 s i) ∧ (∀ w i, w < S.2.1 → i < 2 → m.1 (40 + w) i = S.2.2.2 2 w i) ∧ S.1 ≤ 12 ∧ S.2.1 ≤ 4 ∧ (S.2.2.1 = false → ∀ i, i < 2 → S.2.2.2 0 0 i = dfT 0 i)
def clB (r : (tST × Nat) ⊕ Nat) (N : Nat) (t : Nat → Int32) (rv : Option Value) (m' : xM) : Prop := m'.1 2 = t ∧ rS m' ∧ ((∃ S2 p, r = .inl (S2, p) ∧ rv = some (.int 1) ∧ tpS m' N p ∧ clS m' S2 ∧ (atv N t p = -1 ∨ atv N t p = 59) ∧ sk N t p = p) ∨ (∃ w, r = .inr w ∧ w ≤ N ∧ rv = some (.int 0) ∧ m'.1 1 3 = nI w))
theorem rS_2 {m m' : xM} (h : rS m) (e : m'.2 = m.2) : rS m' := fun a i b hb => by rw [e]; exact h a i b hb
theorem lay_s12 : ∀ s : Fin 12, lay (27 + s.val) = (0, 0, 4) ∧ tR 26 s.val = some (27 + s.val) := by decide +kernel
theorem lay_w4 : ∀ s : Fin 4, lay (40 + s.val) = (0, 0, 2) ∧ tR 39 s.val = some (40 + s.val) := by decide +kernel
theorem mC_ne {m : xM} {b a : Nat} {f : Nat → Int32} (h : ¬ a = b) : (mC m b f).1 a = m.1 a := by show (if a = b then f else m.1 a) = _; rw [if_neg h]
theorem mC_at {m : xM} {b : Nat} {f : Nat → Int32} : (mC m b f).1 b = f := by show (if b = b then f else m.1 b) = _; rw [if_pos rfl]

theorem f_mem {k n pc : Nat} {ca : Nat → List Value → xM → (Option Value → xM → Prop) → Prop} {P : Option Value → xM → Prop} {l : List (Nat × Value)} {st : List Value} {m : xM} (H : xF k ca P n pc l st m) : ∃ m2, m2 = m ∧ xF k ca P n pc l st m2 := ⟨m, rfl, H⟩
theorem cpy_at {f g : Nat → Int32} {k L : Nat} {n : Int32} (hk : k < L) (hn : n.toNatClampNeg = L) : va_cpy f g (Int32.toNatClampNeg 0) (Int32.toNatClampNeg 0) n.toNatClampNeg k = f k := by
  rw [hn, show Int32.toNatClampNeg 0 = 0 by decide]
  unfold va_cpy
  rw [if_pos (by omega), Nat.sub_zero, Nat.zero_add]
theorem ups_k {g : Nat → Nat → Nat → Int32} {K r a b : Nat} {row : Nat → Int32} (h : ¬ (a = K ∧ b = r)) : ups g K r row a b = g a b := if_neg h
theorem ups_s {g : Nat → Nat → Nat → Int32} {K r : Nat} {row : Nat → Int32} : ups g K r row K r = row := if_pos ⟨rfl, rfl⟩
theorem tpS_ex {N h : Nat} {m m' : xM} (h1 : tpS m N h) (ha : m'.1 1 1 = m.1 1 1) (h2 : m'.2 = m.2) (h3 : ∃ h2, m'.1 1 2 = nI h2 ∧ h2 ≤ N) : ∃ h2, tpS m' N h2 := by
  obtain ⟨e1, e2, hN, hh, e3⟩ := h1
  obtain ⟨h2', e4, e5⟩ := h3
  exact ⟨h2', by rw [ha]; exact e1, e4, hN, e5, by rw [h2]; exact e3⟩
set_option maxHeartbeats 4000000 in
theorem c_readClauseT {m : xM} {N h : Nat} {t : Nat → Int32} {S : tST} (hm : tpS m N h) (ht : m.1 2 = t) (hr : rS m) (hS : clS m S) : fC 43 [.ref 24, .ref 1] m (clB (tcl N t S h) N t) := by
  refine fC_of (by decide) (fun d n P H => ?_)
  obtain ⟨s1, s2, s3, s4, s5, s6, s7, s8, s9⟩ := hS
  have hN := hm.2.2.1
  have hh := hm.2.2.2.1
  have hp : sk N t h ≤ N := sk_le hh
  have htc : tcl N t S h = tcB N t S (sk N t h) (atv N t (sk N t h)) := rfl
  rw [htc]
  replace H := f_aload_n H k43_0 rfl
  obtain ⟨rv, m1, ⟨rfl, e9⟩, h9_1⟩ := f_inv H k43_1 (by decide +kernel) (as := []) (b := 1) (r := []) (by rfl) (c_ahead hm)
  replace H := h9_1
  rw [ht] at H e9
  have hm1 : tpS m1 N (sk N t h) := by rw [e9]; exact tpS_h hm hp
  have ha1 : ∀ a i, ¬ a = 1 → m1.1 a i = m.1 a i := fun a i h => by rw [e9, mI_ne (by omega)]
  have hr1 : rS m1 := by rw [e9]; exact hr
  clear e9
  generalize sk N t h = p at *
  have hlt : atv N t p ≠ -1 → p < N := fun z => by
    by_cases h9 : p < N
    · exact h9
    · exact absurd (by unfold atv; rw [if_neg h9]) z
  generalize hse : atv N t p = s at *
  have ht1 : m1.1 2 = t := by rw [← ht]; exact funext fun j => ha1 2 j (by omega)
  have hr := hr1
  -- the end
  have fin : ∀ (K R : Nat) (m2 m3 : xM) (rv : Option Value) (f : (Nat → Int32) → tST) (L : Nat), 2 < R → tpS m2 N (p + 1) → m2.1 2 = t → rS m2 → itO N t L R m2 (itm N t K 5 0 (dfT K) (p + 1)) rv m3 → (∀ row, (∀ i, i < L → m3.1 R i = row i) → agR R m2 m3 → clS m3 (f row)) → clB (tcR (itm N t K 5 0 (dfT K) (p + 1)) f) N t rv m3 := by
    intro K R m2 m3 rv f L hR h1 h2 h3 ho hf
    obtain ⟨ha, ho⟩ := ho
    refine ⟨by rw [← h2]; exact funext fun j => ha.1 2 j (by omega) (by omega), rS_2 h3 ha.2, ?_⟩
    · rcases ho with ⟨row, q, e1, e2, e3, e4, e5, e6, e7⟩ | ⟨w, e1, e2, e3, e4⟩
      · rw [e1]
        exact Or.inl ⟨f row, q, rfl, e2, ⟨by rw [ha.1 1 1 (by omega) (by omega)]; exact h1.1, e3, hN, e4, by rw [ha.2]; exact h1.2.2.2.2⟩, hf row e7 ha, e5, e6⟩
      · rw [e1]
        exact Or.inr ⟨w, rfl, e2, e3, e4⟩
  have no3 : ¬ (s = 112 ∧ S.2.1 < 4) → ¬ (s = 101 ∧ S.1 < 12) → ¬ (s = 115 ∧ S.2.2.1 = false) → ∀ n, xF 43 (xw d) P n 172 [(2, .int s), (0, .ref 24), (1, .ref 1)] [] m1 → ∃ rv m', P rv m' ∧ clB (tcB N t S p s) N t rv m' := by
    intro n1 n2 n3 n H
    replace H := f_aload_n H k43_172 rfl
    obtain ⟨rv, m', ⟨rfl, rfl⟩, h9_173⟩ := f_inv H k43_173 (by decide +kernel) (as := []) (b := 1) (r := []) (by rfl) (c_refuseHere hm1)
    replace H := h9_173
    replace H := f_iret H k43_176
    have e : tcB N t S p s = .inr p := by unfold tcB; rw [if_neg n3, if_neg n2, if_neg n1]
    rw [e]
    exact ⟨_, _, H, by rw [← ht1]; exact funext fun j => mI_ne (by omega), hr, Or.inr ⟨p, rfl, hp, rfl, mI_at⟩⟩
  have no2 : ¬ (s = 101 ∧ S.1 < 12) → ¬ (s = 115 ∧ S.2.2.1 = false) → ∀ n, xF 43 (xw d) P n 109 [(2, .int s), (0, .ref 24), (1, .ref 1)] [] m1 → ∃ rv m', P rv m' ∧ clB (tcB N t S p s) N t rv m' := by
    intro n2 n3 n H
    replace H := f_iload_n H k43_109 rfl
    replace H := f_bipush H k43_110 (v := 112) (by decide)
    have Hbr := f_icmp_ne H k43_112 (t := 172) (by decide)
    clear H
    rcases Hbr with ⟨c, H⟩ | ⟨c, H⟩
    · exact no3 (fun z => c z.1) n2 n3 _ H
    replace H := f_aload_n H k43_115 rfl
    replace H := f_gi H k43_116 (ci := 5) (f := 2) (by decide +kernel) (by decide)
    replace H := f_iconst H k43_119 (v := 4) (by decide)
    rw [ha1 24 2 (by omega), s2] at H
    have Hbr := f_icmp_ge H k43_120 (t := 172) (by decide)
    clear H
    rcases Hbr with ⟨c2, H⟩ | ⟨c2, H⟩
    · exact no3 (fun z => by rw [Int32.le_iff_toInt_le, nI_toInt (by omega), show (4 : Int32).toInt = 4 by decide] at c2; omega) n2 n3 _ H
    · have c4 : S.2.1 < 4 := by
        have := Int32.not_le.mp c2
        rw [Int32.lt_iff_toInt_lt, nI_toInt (by omega), show (4 : Int32).toInt = 4 by decide] at this
        omega
      obtain ⟨y1, y2⟩ := lay_w4 ⟨S.2.1, c4⟩
      obtain ⟨R, hR⟩ : ∃ R, R = 40 + S.2.1 := ⟨_, rfl⟩
      rw [← hR] at y1 y2
      have hpN : p < N := hlt (fun z => by rw [z] at c; exact absurd c (by decide))
      replace H := f_aload_n H k43_123 rfl
      replace H := f_gr H k43_124 (ci := 5) (f := 6) (x := 39) (by decide +kernel) (by decide) (hr 24 6 39 rfl)
      replace H := f_aload_n H k43_127 rfl
      replace H := f_gi H k43_128 (ci := 5) (f := 2) (by decide +kernel) (by decide)
      have Hob := f_aald H k43_131 (x := 6) (c := 4) (v := .ref R) (by decide) ((by rw [ha1 24 2 (by omega), s2, nI_clamp (by omega), hr 39 S.2.1 R y2]; rfl))
      clear H
      obtain ⟨hb131, H⟩ := Hob
      replace H := f_astore_n H k43_132 (l2 := [(3, .ref R), (2, .int s), (0, .ref 24), (1, .ref 1)]) rfl
      replace H := f_aload_n H k43_133 rfl
      replace H := f_dup H k43_134
      replace H := f_gi H k43_135 (ci := 5) (f := 2) (by decide +kernel) (by decide)
      replace H := f_iconst H k43_138 (v := 1) (by decide)
      replace H := f_iadd H k43_139
      replace H := f_put_i H k43_140 (ci := 5) (f := 2) (by decide +kernel) (by decide)
      replace H := f_getstatic H k43_143 (v := 1013) (by decide +kernel)
      replace H := f_iconst H k43_146 (v := 0) (by decide)
      replace H := f_aload_n H k43_147 rfl
      replace H := f_iconst H k43_148 (v := 0) (by decide)
      replace H := f_iconst H k43_149 (v := 2) (by decide)
      have Hob := f_cpy4 H k43_150 (z := 0) (nb := 2) (na := 2) (by decide +kernel) y1 (by decide)
      clear H
      obtain ⟨hb150, H⟩ := Hob
      replace H := f_aload_n H k43_153 rfl
      rw [ha1 24 2 (by omega), s2, nI_s] at H
      obtain ⟨m2, em, H⟩ := f_mem H
      have ha2 : ∀ a i, ¬ a = 1 → ¬ a = R → ¬ (a = 24 ∧ i = 2) → m2.1 a i = m.1 a i := fun a i h1 h2 h3 => by rw [em, mC_ne h2, mI_ne h3, ha1 a i h1]
      have hb2 : ∀ i, m2.1 1 i = m1.1 1 i := fun i => by rw [em, mC_ne (by omega), mI_ne (by omega)]
      have hr2 : rS m2 := by rw [em]; exact hr
      have hm2 : tpS m2 N p := by
        obtain ⟨e1, e2, e3, e4, e5⟩ := hm1
        exact ⟨by rw [hb2]; exact e1, by rw [hb2]; exact e2, e3, e4, by rw [em]; exact e5⟩
      have ht2 : m2.1 2 = t := by rw [← ht]; exact funext fun j => ha2 2 j (by omega) (by omega) (by omega)
      have hR2 : ∀ i, i < 2 → m2.1 R i = dfT 2 i := fun i hi => by rw [em, mC_at, cpy_at hi (by decide)]; rfl
      have hq2 : m2.1 24 2 = nI (S.2.1 + 1) := by rw [em, mC_ne (by omega), mI_at]
      clear em
      obtain ⟨rv, m3, ⟨rfl, e9⟩, h9_154⟩ := f_inv H k43_154 (by decide +kernel) (as := []) (b := 1) (r := []) (by rfl) (c_step hm2)
      replace H := h9_154
      have hm3 : tpS m3 N (p + 1) := by rw [e9]; exact tpS_h hm2 hpN
      have ht3 : m3.1 2 = t := by rw [e9, mI_row]; exact ht2
      have hr3 : rS m3 := by rw [e9]; exact hr2
      have hR3 : ∀ i, i < 2 → m3.1 R i = dfT 2 i := fun i hi => by rw [e9, mI_ne (by omega)]; exact hR2 i hi
      have ha3 : ∀ a i, ¬ a = 1 → ¬ a = R → ¬ (a = 24 ∧ i = 2) → m3.1 a i = m.1 a i := fun a i h1 h2 h3 => by rw [e9, mI_ne (by omega)]; exact ha2 a i h1 h2 h3
      have hq3 : m3.1 24 2 = nI (S.2.1 + 1) := by rw [e9, mI_ne (by omega)]; exact hq2
      clear e9
      replace H := f_aload_n H k43_157 rfl
      replace H := f_getstatic H k43_158 (v := 1014) (by decide +kernel)
      replace H := f_getstatic H k43_161 (v := 1015) (by decide +kernel)
      replace H := f_getstatic H k43_164 (v := 1016) (by decide +kernel)
      replace H := f_aload_n H k43_167 rfl
      obtain ⟨rv, m4, ho, h9_168⟩ := f_ins H k43_168 (by decide +kernel) (as := [.ref 1, .ref 1014, .ref 1015, .ref 1016, .ref R]) (r := []) (by rfl) (c_readItems (K := 2) (row := dfT 2) ⟨by omega, rfl, rfl, rfl⟩ y1 (by omega) hm3 ht3 hR3)
      replace H := h9_168
      have e : tcB N t S p s = tcR (itm N t 2 5 0 (dfT 2) (p + 1)) (fun row => (S.1, S.2.1 + 1, S.2.2.1, ups S.2.2.2 2 S.2.1 row)) := by unfold tcB; rw [if_neg n3, if_neg n2, if_pos ⟨c, c4⟩]
      rw [e]
      have hf := fin 2 R m3 m4 rv (fun row => (S.1, S.2.1 + 1, S.2.2.1, ups S.2.2.2 2 S.2.1 row)) 2 (by omega) hm3 ht3 hr3 ho ?_
      · have hrv : ∃ v, rv = some (.int v) := by
          rcases ho.2 with ⟨_, _, _, q, _⟩ | ⟨_, _, _, q, _⟩ <;> exact ⟨_, q⟩
        obtain ⟨v, rfl⟩ := hrv
        replace H := f_iret H k43_171
        exact ⟨_, _, H, hf⟩
      · intro row hrow ha
        have hb : ∀ a i, ¬ a = 1 → ¬ a = R → ¬ (a = 24 ∧ i = 2) → m4.1 a i = m.1 a i := fun a i h1 h2 h3 => by rw [ha.1 a i h2 (by omega), ha3 a i h1 h2 h3]
        refine ⟨by rw [hb 24 1 (by omega) (by omega) (by omega)]; exact s1, by rw [ha.1 24 2 (by omega) (by omega)]; exact hq3, by rw [hb 24 3 (by omega) (by omega) (by omega)]; exact s3, fun i hi => ?_, fun q i hq hi => ?_, fun q i hq hi => ?_, s7, by show S.2.1 + 1 ≤ 4; omega, fun z i hi => by show ups S.2.2.2 2 S.2.1 row 0 0 i = _; rw [ups_k (by omega)]; exact s9 z i hi⟩
        · rw [hb 25 i (by omega) (by omega) (by omega)]
          show _ = ups S.2.2.2 2 S.2.1 row 0 0 i
          rw [ups_k (by omega)]
          exact s4 i hi
        · rw [hb (27 + q) i (by omega) (by have : q < 12 := by omega
                                           omega) (by omega)]
          show _ = ups S.2.2.2 2 S.2.1 row 1 q i
          rw [ups_k (by omega)]
          exact s5 q i hq hi
        · show _ = ups S.2.2.2 2 S.2.1 row 2 q i
          by_cases eq : q = S.2.1
          · rw [eq, ups_s, ← hR]
            exact hrow i hi
          · rw [ups_k (fun z => eq z.2), hb (40 + q) i (by omega) (by omega) (by omega)]
            exact s6 q i (by have : q < S.2.1 + 1 := hq
                             omega) hi
  have no1 : ¬ (s = 115 ∧ S.2.2.1 = false) → ∀ n, xF 43 (xw d) P n 45 [(2, .int s), (0, .ref 24), (1, .ref 1)] [] m1 → ∃ rv m', P rv m' ∧ clB (tcB N t S p s) N t rv m' := by
    intro n3 n H
    replace H := f_iload_n H k43_45 rfl
    replace H := f_bipush H k43_46 (v := 101) (by decide)
    have Hbr := f_icmp_ne H k43_48 (t := 109) (by decide)
    clear H
    rcases Hbr with ⟨c, H⟩ | ⟨c, H⟩
    · exact no2 (fun z => c z.1) n3 _ H
    replace H := f_aload_n H k43_51 rfl
    replace H := f_gi H k43_52 (ci := 5) (f := 1) (by decide +kernel) (by decide)
    replace H := f_bipush H k43_55 (v := 12) (by decide)
    rw [ha1 24 1 (by omega), s1] at H
    have Hbr := f_icmp_ge H k43_57 (t := 109) (by decide)
    clear H
    rcases Hbr with ⟨c2, H⟩ | ⟨c2, H⟩
    · exact no2 (fun z => by rw [Int32.le_iff_toInt_le, nI_toInt (by omega), show (12 : Int32).toInt = 12 by decide] at c2; omega) n3 _ H
    · have c4 : S.1 < 12 := by
        have := Int32.not_le.mp c2
        rw [Int32.lt_iff_toInt_lt, nI_toInt (by omega), show (12 : Int32).toInt = 12 by decide] at this
        omega
      obtain ⟨y1, y2⟩ := lay_s12 ⟨S.1, c4⟩
      obtain ⟨R, hR⟩ : ∃ R, R = 27 + S.1 := ⟨_, rfl⟩
      rw [← hR] at y1 y2
      have hpN : p < N := hlt (fun z => by rw [z] at c; exact absurd c (by decide))
      replace H := f_aload_n H k43_60 rfl
      replace H := f_gr H k43_61 (ci := 5) (f := 5) (x := 26) (by decide +kernel) (by decide) (hr 24 5 26 rfl)
      replace H := f_aload_n H k43_64 rfl
      replace H := f_gi H k43_65 (ci := 5) (f := 1) (by decide +kernel) (by decide)
      have Hob := f_aald H k43_68 (x := 6) (c := 12) (v := .ref R) (by decide) ((by rw [ha1 24 1 (by omega), s1, nI_clamp (by omega), hr 26 S.1 R y2]; rfl))
      clear H
      obtain ⟨hb68, H⟩ := Hob
      replace H := f_astore_n H k43_69 (l2 := [(3, .ref R), (2, .int s), (0, .ref 24), (1, .ref 1)]) rfl
      replace H := f_aload_n H k43_70 rfl
      replace H := f_dup H k43_71
      replace H := f_gi H k43_72 (ci := 5) (f := 1) (by decide +kernel) (by decide)
      replace H := f_iconst H k43_75 (v := 1) (by decide)
      replace H := f_iadd H k43_76
      replace H := f_put_i H k43_77 (ci := 5) (f := 1) (by decide +kernel) (by decide)
      replace H := f_getstatic H k43_80 (v := 1009) (by decide +kernel)
      replace H := f_iconst H k43_83 (v := 0) (by decide)
      replace H := f_aload_n H k43_84 rfl
      replace H := f_iconst H k43_85 (v := 0) (by decide)
      replace H := f_iconst H k43_86 (v := 4) (by decide)
      have Hob := f_cpy4 H k43_87 (z := 0) (nb := 4) (na := 4) (by decide +kernel) y1 (by decide)
      clear H
      obtain ⟨hb87, H⟩ := Hob
      replace H := f_aload_n H k43_90 rfl
      rw [ha1 24 1 (by omega), s1, nI_s] at H
      obtain ⟨m2, em, H⟩ := f_mem H
      have ha2 : ∀ a i, ¬ a = 1 → ¬ a = R → ¬ (a = 24 ∧ i = 1) → m2.1 a i = m.1 a i := fun a i h1 h2 h3 => by rw [em, mC_ne h2, mI_ne h3, ha1 a i h1]
      have hb2 : ∀ i, m2.1 1 i = m1.1 1 i := fun i => by rw [em, mC_ne (by omega), mI_ne (by omega)]
      have hr2 : rS m2 := by rw [em]; exact hr
      have hm2 : tpS m2 N p := by
        obtain ⟨e1, e2, e3, e4, e5⟩ := hm1
        exact ⟨by rw [hb2]; exact e1, by rw [hb2]; exact e2, e3, e4, by rw [em]; exact e5⟩
      have ht2 : m2.1 2 = t := by rw [← ht]; exact funext fun j => ha2 2 j (by omega) (by omega) (by omega)
      have hR2 : ∀ i, i < 4 → m2.1 R i = dfT 1 i := fun i hi => by rw [em, mC_at, cpy_at hi (by decide)]; rfl
      have hq2 : m2.1 24 1 = nI (S.1 + 1) := by rw [em, mC_ne (by omega), mI_at]
      clear em
      obtain ⟨rv, m3, ⟨rfl, e9⟩, h9_91⟩ := f_inv H k43_91 (by decide +kernel) (as := []) (b := 1) (r := []) (by rfl) (c_step hm2)
      replace H := h9_91
      have hm3 : tpS m3 N (p + 1) := by rw [e9]; exact tpS_h hm2 hpN
      have ht3 : m3.1 2 = t := by rw [e9, mI_row]; exact ht2
      have hr3 : rS m3 := by rw [e9]; exact hr2
      have hR3 : ∀ i, i < 4 → m3.1 R i = dfT 1 i := fun i hi => by rw [e9, mI_ne (by omega)]; exact hR2 i hi
      have ha3 : ∀ a i, ¬ a = 1 → ¬ a = R → ¬ (a = 24 ∧ i = 1) → m3.1 a i = m.1 a i := fun a i h1 h2 h3 => by rw [e9, mI_ne (by omega)]; exact ha2 a i h1 h2 h3
      have hq3 : m3.1 24 1 = nI (S.1 + 1) := by rw [e9, mI_ne (by omega)]; exact hq2
      clear e9
      replace H := f_aload_n H k43_94 rfl
      replace H := f_getstatic H k43_95 (v := 1010) (by decide +kernel)
      replace H := f_getstatic H k43_98 (v := 1011) (by decide +kernel)
      replace H := f_getstatic H k43_101 (v := 1012) (by decide +kernel)
      replace H := f_aload_n H k43_104 rfl
      obtain ⟨rv, m4, ho, h9_105⟩ := f_ins H k43_105 (by decide +kernel) (as := [.ref 1, .ref 1010, .ref 1011, .ref 1012, .ref R]) (r := []) (by rfl) (c_readItems (K := 1) (row := dfT 1) ⟨by omega, rfl, rfl, rfl⟩ y1 (by omega) hm3 ht3 hR3)
      replace H := h9_105
      have e : tcB N t S p s = tcR (itm N t 1 5 0 (dfT 1) (p + 1)) (fun row => (S.1 + 1, S.2.1, S.2.2.1, ups S.2.2.2 1 S.1 row)) := by unfold tcB; rw [if_neg n3, if_pos ⟨c, c4⟩]
      rw [e]
      have hf := fin 1 R m3 m4 rv (fun row => (S.1 + 1, S.2.1, S.2.2.1, ups S.2.2.2 1 S.1 row)) 4 (by omega) hm3 ht3 hr3 ho ?_
      · have hrv : ∃ v, rv = some (.int v) := by
          rcases ho.2 with ⟨_, _, _, q, _⟩ | ⟨_, _, _, q, _⟩ <;> exact ⟨_, q⟩
        obtain ⟨v, rfl⟩ := hrv
        replace H := f_iret H k43_108
        exact ⟨_, _, H, hf⟩
      · intro row hrow ha
        have hb : ∀ a i, ¬ a = 1 → ¬ a = R → ¬ (a = 24 ∧ i = 1) → m4.1 a i = m.1 a i := fun a i h1 h2 h3 => by rw [ha.1 a i h2 (by omega), ha3 a i h1 h2 h3]
        refine ⟨by rw [ha.1 24 1 (by omega) (by omega)]; exact hq3, by rw [hb 24 2 (by omega) (by omega) (by omega)]; exact s2, by rw [hb 24 3 (by omega) (by omega) (by omega)]; exact s3, fun i hi => ?_, fun q i hq hi => ?_, fun q i hq hi => ?_, by show S.1 + 1 ≤ 12; omega, s8, fun z i hi => by show ups S.2.2.2 1 S.1 row 0 0 i = _; rw [ups_k (by omega)]; exact s9 z i hi⟩
        · rw [hb 25 i (by omega) (by omega) (by omega)]
          show _ = ups S.2.2.2 1 S.1 row 0 0 i
          rw [ups_k (by omega)]
          exact s4 i hi
        · show _ = ups S.2.2.2 1 S.1 row 1 q i
          by_cases eq : q = S.1
          · rw [eq, ups_s, ← hR]
            exact hrow i hi
          · rw [ups_k (fun z => eq z.2), hb (27 + q) i (by omega) (by omega) (by omega)]
            exact s5 q i (by have : q < S.1 + 1 := hq
                             omega) hi
        · have hq4 : q < 4 := by
            have : q < S.2.1 := hq
            omega
          rw [hb (40 + q) i (by omega) (by omega) (by omega)]
          show _ = ups S.2.2.2 1 S.1 row 2 q i
          rw [ups_k (by omega)]
          exact s6 q i hq hi
  replace H := f_istore_n H k43_4 (l2 := [(2, .int _), (0, .ref 24), (1, .ref 1)]) rfl
  replace H := f_iload_n H k43_5 rfl
  replace H := f_bipush H k43_6 (v := 115) (by decide)
  have Hbr := f_icmp_ne H k43_8 (t := 45) (by decide)
  clear H
  rcases Hbr with ⟨c, H⟩ | ⟨c, H⟩
  · exact no1 (fun z => c z.1) _ H
  replace H := f_aload_n H k43_11 rfl
  replace H := f_gi H k43_12 (ci := 5) (f := 3) (by decide +kernel) (by decide)
  rw [ha1 24 3 (by omega), s3] at H
  have hpN : p < N := hlt (fun z => by rw [z] at c; exact absurd c (by decide))
  have Hbr := f_if_ne H k43_15 (t := 45) (by decide)
  clear H
  rcases Hbr with ⟨c2, H⟩ | ⟨c2, H⟩
  · exact no1 (fun z => by rw [z.2] at c2; exact c2 rfl) _ H
  · have cf : S.2.2.1 = false := by
      cases e : S.2.2.1 with
      | false => rfl
      | true => rw [e] at c2; exact absurd c2 (by decide)
    replace H := f_aload_n H k43_18 rfl
    replace H := f_iconst H k43_19 (v := 1) (by decide)
    replace H := f_put_b H k43_20 (ci := 5) (f := 3) (by decide +kernel) (by decide)
    replace H := f_aload_n H k43_23 rfl
    obtain ⟨m2, em, H⟩ := f_mem H
    have ha2 : ∀ a i, ¬ a = 1 → ¬ (a = 24 ∧ i = 3) → m2.1 a i = m.1 a i := fun a i h1 h3 => by rw [em, mI_ne h3, ha1 a i h1]
    have hb2 : ∀ i, m2.1 1 i = m1.1 1 i := fun i => by rw [em, mI_ne (by omega)]
    have hr2 : rS m2 := by rw [em]; exact hr
    have hm2 : tpS m2 N p := by
      obtain ⟨e1, e2, e3, e4, e5⟩ := hm1
      exact ⟨by rw [hb2]; exact e1, by rw [hb2]; exact e2, e3, e4, by rw [em]; exact e5⟩
    have ht2 : m2.1 2 = t := by rw [← ht]; exact funext fun j => ha2 2 j (by omega) (by omega)
    have hq2 : m2.1 24 3 = 1 := by rw [em, mI_at]
    clear em
    obtain ⟨rv, m3, ⟨rfl, e9⟩, h9_24⟩ := f_inv H k43_24 (by decide +kernel) (as := []) (b := 1) (r := []) (by rfl) (c_step hm2)
    replace H := h9_24
    have hm3 : tpS m3 N (p + 1) := by rw [e9]; exact tpS_h hm2 hpN
    have ht3 : m3.1 2 = t := by rw [e9, mI_row]; exact ht2
    have hr3 : rS m3 := by rw [e9]; exact hr2
    have ha3 : ∀ a i, ¬ a = 1 → ¬ (a = 24 ∧ i = 3) → m3.1 a i = m.1 a i := fun a i h1 h3 => by rw [e9, mI_ne (by omega)]; exact ha2 a i h1 h3
    have hR3 : ∀ i, i < 2 → m3.1 25 i = dfT 0 i := fun i hi => by rw [ha3 25 i (by omega) (by omega), s4 i hi]; exact s9 cf i hi
    have hq3 : m3.1 24 3 = 1 := by rw [e9, mI_ne (by omega)]; exact hq2
    clear e9
    have hr := hr3
    replace H := f_aload_n H k43_27 rfl
    replace H := f_getstatic H k43_28 (v := 1006) (by decide +kernel)
    replace H := f_getstatic H k43_31 (v := 1007) (by decide +kernel)
    replace H := f_getstatic H k43_34 (v := 1008) (by decide +kernel)
    replace H := f_aload_n H k43_37 rfl
    replace H := f_gr H k43_38 (ci := 5) (f := 4) (x := 25) (by decide +kernel) (by decide) (hr 24 4 25 rfl)
    obtain ⟨rv, m4, ho, h9_41⟩ := f_ins H k43_41 (by decide +kernel) (as := [.ref 1, .ref 1006, .ref 1007, .ref 1008, .ref 25]) (r := []) (by rfl) (c_readItems (K := 0) (row := dfT 0) (R := 25) ⟨by omega, rfl, rfl, rfl⟩ (by decide) (by omega) hm3 ht3 hR3)
    replace H := h9_41
    have e : tcB N t S p s = tcR (itm N t 0 5 0 (dfT 0) (p + 1)) (fun row => (S.1, S.2.1, true, ups S.2.2.2 0 0 row)) := by unfold tcB; rw [if_pos ⟨c, cf⟩]
    rw [e]
    have hf := fin 0 25 m3 m4 rv (fun row => (S.1, S.2.1, true, ups S.2.2.2 0 0 row)) 2 (by omega) hm3 ht3 hr3 ho ?_
    · have hrv : ∃ v, rv = some (.int v) := by
        rcases ho.2 with ⟨_, _, _, q, _⟩ | ⟨_, _, _, q, _⟩ <;> exact ⟨_, q⟩
      obtain ⟨v, rfl⟩ := hrv
      replace H := f_iret H k43_44
      exact ⟨_, _, H, hf⟩
    · intro row hrow ha
      have hb : ∀ a i, ¬ a = 1 → ¬ a = 25 → ¬ (a = 24 ∧ i = 3) → m4.1 a i = m.1 a i := fun a i h1 h2 h3 => by rw [ha.1 a i h2 (by omega), ha3 a i h1 h3]
      refine ⟨by rw [hb 24 1 (by omega) (by omega) (by omega)]; exact s1, by rw [hb 24 2 (by omega) (by omega) (by omega)]; exact s2, by rw [ha.1 24 3 (by omega) (by omega)]; exact hq3, fun i hi => ?_, fun q i hq hi => ?_, fun q i hq hi => ?_, s7, s8, fun z => by cases z⟩
      · show _ = ups S.2.2.2 0 0 row 0 0 i
        rw [ups_s]
        exact hrow i hi
      · rw [hb (27 + q) i (by omega) (by omega) (by omega)]
        show _ = ups S.2.2.2 0 0 row 1 q i
        rw [ups_k (by omega)]
        exact s5 q i hq hi
      · rw [hb (40 + q) i (by omega) (by omega) (by omega)]
        show _ = ups S.2.2.2 0 0 row 2 q i
        rw [ups_k (by omega)]
        exact s6 q i hq hi
theorem k46_0 : lkc 0 (kcode 46) = some (.aload_n 0) := by decide +kernel
theorem k46_1 : lkc 1 (kcode 46) = some (.getfield 30) := by decide +kernel
theorem k46_4 : lkc 4 (kcode 46) = some (.ifCond .eq 10) := by decide +kernel
theorem k46_7 : lkc 7 (kcode 46) = some (.aload_n 0) := by decide +kernel
theorem k46_8 : lkc 8 (kcode 46) = some (.getfield 33) := by decide +kernel
theorem k46_11 : lkc 11 (kcode 46) = some (.ifCond .ne 5) := by decide +kernel
theorem k46_14 : lkc 14 (kcode 46) = some (.iconst 0) := by decide +kernel
theorem k46_15 : lkc 15 (kcode 46) = some (.ireturn) := by decide +kernel
theorem k46_16 : lkc 16 (kcode 46) = some (.iconst 0) := by decide +kernel
theorem k46_17 : lkc 17 (kcode 46) = some (.istore_n 1) := by decide +kernel
theorem k46_18 : lkc 18 (kcode 46) = some (.iload_n 1) := by decide +kernel
theorem k46_19 : lkc 19 (kcode 46) = some (.aload_n 0) := by decide +kernel
theorem k46_20 : lkc 20 (kcode 46) = some (.getfield 30) := by decide +kernel
theorem k46_23 : lkc 23 (kcode 46) = some (.if_icmp .ge 48) := by decide +kernel
theorem k46_26 : lkc 26 (kcode 46) = some (.aload_n 0) := by decide +kernel
theorem k46_27 : lkc 27 (kcode 46) = some (.iload_n 1) := by decide +kernel
theorem k46_28 : lkc 28 (kcode 46) = some (.invokevirtual 134) := by decide +kernel
theorem k46_31 : lkc 31 (kcode 46) = some (.aload_n 0) := by decide +kernel
theorem k46_32 : lkc 32 (kcode 46) = some (.getfield 26) := by decide +kernel
theorem k46_35 : lkc 35 (kcode 46) = some (.if_icmp .ge 28) := by decide +kernel
theorem k46_38 : lkc 38 (kcode 46) = some (.aload_n 0) := by decide +kernel
theorem k46_39 : lkc 39 (kcode 46) = some (.iload_n 1) := by decide +kernel
theorem k46_40 : lkc 40 (kcode 46) = some (.invokevirtual 138) := by decide +kernel
theorem k46_43 : lkc 43 (kcode 46) = some (.aload_n 0) := by decide +kernel
theorem k46_44 : lkc 44 (kcode 46) = some (.getfield 26) := by decide +kernel
theorem k46_47 : lkc 47 (kcode 46) = some (.if_icmp .ge 16) := by decide +kernel
theorem k46_50 : lkc 50 (kcode 46) = some (.aload_n 0) := by decide +kernel
theorem k46_51 : lkc 51 (kcode 46) = some (.iload_n 1) := by decide +kernel
theorem k46_52 : lkc 52 (kcode 46) = some (.invokevirtual 134) := by decide +kernel
theorem k46_55 : lkc 55 (kcode 46) = some (.aload_n 0) := by decide +kernel
theorem k46_56 : lkc 56 (kcode 46) = some (.iload_n 1) := by decide +kernel
theorem k46_57 : lkc 57 (kcode 46) = some (.invokevirtual 138) := by decide +kernel
theorem k46_60 : lkc 60 (kcode 46) = some (.if_icmp .ne 5) := by decide +kernel
theorem k46_63 : lkc 63 (kcode 46) = some (.iconst 0) := by decide +kernel
theorem k46_64 : lkc 64 (kcode 46) = some (.ireturn) := by decide +kernel
theorem k46_65 : lkc 65 (kcode 46) = some (.iinc 1 1) := by decide +kernel
theorem k46_68 : lkc 68 (kcode 46) = some (.goto (-50)) := by decide +kernel
theorem k46_71 : lkc 71 (kcode 46) = some (.iconst 0) := by decide +kernel
theorem k46_72 : lkc 72 (kcode 46) = some (.istore_n 1) := by decide +kernel
theorem k46_73 : lkc 73 (kcode 46) = some (.iload_n 1) := by decide +kernel
theorem k46_74 : lkc 74 (kcode 46) = some (.aload_n 0) := by decide +kernel
theorem k46_75 : lkc 75 (kcode 46) = some (.getfield 33) := by decide +kernel
theorem k46_78 : lkc 78 (kcode 46) = some (.if_icmp .ge 26) := by decide +kernel
theorem k46_81 : lkc 81 (kcode 46) = some (.aload_n 0) := by decide +kernel
theorem k46_82 : lkc 82 (kcode 46) = some (.getfield 20) := by decide +kernel
theorem k46_85 : lkc 85 (kcode 46) = some (.iload_n 1) := by decide +kernel
theorem k46_86 : lkc 86 (kcode 46) = some (.aaload) := by decide +kernel
theorem k46_87 : lkc 87 (kcode 46) = some (.iconst 0) := by decide +kernel
theorem k46_88 : lkc 88 (kcode 46) = some (.iaload) := by decide +kernel
theorem k46_89 : lkc 89 (kcode 46) = some (.aload_n 0) := by decide +kernel
theorem k46_90 : lkc 90 (kcode 46) = some (.getfield 26) := by decide +kernel
theorem k46_93 : lkc 93 (kcode 46) = some (.if_icmp .lt 5) := by decide +kernel
theorem k46_96 : lkc 96 (kcode 46) = some (.iconst 0) := by decide +kernel
theorem k46_97 : lkc 97 (kcode 46) = some (.ireturn) := by decide +kernel
theorem k46_98 : lkc 98 (kcode 46) = some (.iinc 1 1) := by decide +kernel
theorem k46_101 : lkc 101 (kcode 46) = some (.goto (-28)) := by decide +kernel
theorem k46_104 : lkc 104 (kcode 46) = some (.iconst 1) := by decide +kernel
theorem k46_105 : lkc 105 (kcode 46) = some (.ireturn) := by decide +kernel
theorem k47_0 : lkc 0 (kcode 47) = some (.iconst 0) := by decide +kernel
theorem k47_1 : lkc 1 (kcode 47) = some (.istore_n 1) := by decide +kernel
theorem k47_2 : lkc 2 (kcode 47) = some (.iload_n 1) := by decide +kernel
theorem k47_3 : lkc 3 (kcode 47) = some (.bipush 8) := by decide +kernel
theorem k47_5 : lkc 5 (kcode 47) = some (.if_icmp .ge 16) := by decide +kernel
theorem k47_8 : lkc 8 (kcode 47) = some (.aload_n 0) := by decide +kernel
theorem k47_9 : lkc 9 (kcode 47) = some (.getfield 23) := by decide +kernel
theorem k47_12 : lkc 12 (kcode 47) = some (.iload_n 1) := by decide +kernel
theorem k47_13 : lkc 13 (kcode 47) = some (.iconst 0) := by decide +kernel
theorem k47_14 : lkc 14 (kcode 47) = some (.iastore) := by decide +kernel
theorem k47_15 : lkc 15 (kcode 47) = some (.iinc 1 1) := by decide +kernel
theorem k47_18 : lkc 18 (kcode 47) = some (.goto (-16)) := by decide +kernel
theorem k47_21 : lkc 21 (kcode 47) = some (.iconst 0) := by decide +kernel
theorem k47_22 : lkc 22 (kcode 47) = some (.istore_n 1) := by decide +kernel
theorem k47_23 : lkc 23 (kcode 47) = some (.iload_n 1) := by decide +kernel
theorem k47_24 : lkc 24 (kcode 47) = some (.aload_n 0) := by decide +kernel
theorem k47_25 : lkc 25 (kcode 47) = some (.getfield 30) := by decide +kernel
theorem k47_28 : lkc 28 (kcode 47) = some (.if_icmp .ge 41) := by decide +kernel
theorem k47_31 : lkc 31 (kcode 47) = some (.aload_n 0) := by decide +kernel
theorem k47_32 : lkc 32 (kcode 47) = some (.getfield 23) := by decide +kernel
theorem k47_35 : lkc 35 (kcode 47) = some (.aload_n 0) := by decide +kernel
theorem k47_36 : lkc 36 (kcode 47) = some (.iload_n 1) := by decide +kernel
theorem k47_37 : lkc 37 (kcode 47) = some (.invokevirtual 134) := by decide +kernel
theorem k47_40 : lkc 40 (kcode 47) = some (.dup2) := by decide +kernel
theorem k47_41 : lkc 41 (kcode 47) = some (.iaload) := by decide +kernel
theorem k47_42 : lkc 42 (kcode 47) = some (.iconst 1) := by decide +kernel
theorem k47_43 : lkc 43 (kcode 47) = some (.iload_n 1) := by decide +kernel
theorem k47_44 : lkc 44 (kcode 47) = some (.ishl) := by decide +kernel
theorem k47_45 : lkc 45 (kcode 47) = some (.ior) := by decide +kernel
theorem k47_46 : lkc 46 (kcode 47) = some (.iastore) := by decide +kernel
theorem k47_47 : lkc 47 (kcode 47) = some (.aload_n 0) := by decide +kernel
theorem k47_48 : lkc 48 (kcode 47) = some (.getfield 23) := by decide +kernel
theorem k47_51 : lkc 51 (kcode 47) = some (.aload_n 0) := by decide +kernel
theorem k47_52 : lkc 52 (kcode 47) = some (.iload_n 1) := by decide +kernel
theorem k47_53 : lkc 53 (kcode 47) = some (.invokevirtual 138) := by decide +kernel
theorem k47_56 : lkc 56 (kcode 47) = some (.dup2) := by decide +kernel
theorem k47_57 : lkc 57 (kcode 47) = some (.iaload) := by decide +kernel
theorem k47_58 : lkc 58 (kcode 47) = some (.iconst 1) := by decide +kernel
theorem k47_59 : lkc 59 (kcode 47) = some (.iload_n 1) := by decide +kernel
theorem k47_60 : lkc 60 (kcode 47) = some (.ishl) := by decide +kernel
theorem k47_61 : lkc 61 (kcode 47) = some (.ior) := by decide +kernel
theorem k47_62 : lkc 62 (kcode 47) = some (.iastore) := by decide +kernel
theorem k47_63 : lkc 63 (kcode 47) = some (.iinc 1 1) := by decide +kernel
theorem k47_66 : lkc 66 (kcode 47) = some (.goto (-43)) := by decide +kernel
theorem k47_69 : lkc 69 (kcode 47) = some (.return_) := by decide +kernel
theorem k48_0 : lkc 0 (kcode 48) = some (.aload_n 0) := by decide +kernel
theorem k48_1 : lkc 1 (kcode 48) = some (.getfield 17) := by decide +kernel
theorem k48_4 : lkc 4 (kcode 48) = some (.iload_n 1) := by decide +kernel
theorem k48_5 : lkc 5 (kcode 48) = some (.aaload) := by decide +kernel
theorem k48_6 : lkc 6 (kcode 48) = some (.iconst 0) := by decide +kernel
theorem k48_7 : lkc 7 (kcode 48) = some (.iaload) := by decide +kernel
theorem k48_8 : lkc 8 (kcode 48) = some (.ireturn) := by decide +kernel
theorem k49_0 : lkc 0 (kcode 49) = some (.aload_n 0) := by decide +kernel
theorem k49_1 : lkc 1 (kcode 49) = some (.getfield 17) := by decide +kernel
theorem k49_4 : lkc 4 (kcode 49) = some (.iload_n 1) := by decide +kernel
theorem k49_5 : lkc 5 (kcode 49) = some (.aaload) := by decide +kernel
theorem k49_6 : lkc 6 (kcode 49) = some (.iconst 1) := by decide +kernel
theorem k49_7 : lkc 7 (kcode 49) = some (.iaload) := by decide +kernel
theorem k49_8 : lkc 8 (kcode 49) = some (.ireturn) := by decide +kernel
/-! forward: the class's reader of a town's text: soundness, the whole -/
theorem numT_ge {N h h2 : Nat} {t : Nat → Int32} {l mo v : Int32} (e : numT N t l mo h = .inl (v, h2)) : h ≤ h2 := by
  unfold numT at e
  have h1 : h ≤ sk N t h := sk_ge
  have h3 := rdg_ge (N := N) (t := t) 2 (sk N t h) 0
  generalize rdg N t 2 (sk N t h) 0 = q at *
  split at e
  · cases e
  · split at e
    · cases e
    · cases e
      omega
theorem itm_ge {N K : Nat} {t : Nat → Int32} : ∀ f a row h row2 p, itm N t K f a row h = .inl (row2, p) → h ≤ p := by
  intro f
  induction f with
  | zero => intro a row h row2 p e; cases e
  | succ f ih =>
    intro a row h row2 p e
    have hge : h ≤ sk N t h := sk_ge
    have e : itB N t K a row (sk N t h) (atv N t (sk N t h)) (itm N t K f) = .inl (row2, p) := e
    generalize sk N t h = q at *
    generalize atv N t q = s at *
    by_cases c : s = -1 ∨ s = 59
    · rw [itB_1 c] at e
      cases e
      exact hge
    · cases hp : plc K s with
      | none => rw [itB_2 c hp] at e; cases e
      | some i =>
        cases hb : a.testBit i with
        | true => rw [itB_3 c hp hb] at e; cases e
        | false =>
          cases hn : numT N t (lsT K i) (msT K i) (q + 1) with
          | inr w => rw [itB_4 c hp hb hn] at e; cases e
          | inl x =>
            obtain ⟨v, h2⟩ := x
            rw [itB_5 c hp hb hn] at e
            have h3 := numT_ge hn
            have h4 := ih _ _ _ _ _ e
            omega
theorem tcl_ge {N h p : Nat} {t : Nat → Int32} {S S2 : tST} (e : tcl N t S h = .inl (S2, p)) : h < p := by
  have hge : h ≤ sk N t h := sk_ge
  have key : ∀ K f, tcR (itm N t K 5 0 (dfT K) (sk N t h + 1)) f = .inl (S2, p) → h < p := by
    intro K f e
    cases hi : itm N t K 5 0 (dfT K) (sk N t h + 1) with
    | inr w => rw [hi] at e; cases e
    | inl x =>
      obtain ⟨row, q⟩ := x
      rw [hi] at e
      cases e
      have := itm_ge _ _ _ _ _ _ hi
      omega
  unfold tcl tcB at e
  split at e
  · exact key _ _ e
  · split at e
    · exact key _ _ e
    · split at e
      · exact key _ _ e
      · cases e
theorem c_endA {m : xM} {s : Nat} (hs : s < 12) (hr : rS m) : fC 48 [.ref 24, .int (nI s)] m (fun rv m' => rv = some (.int (m.1 (27 + s) 0)) ∧ m = m') := by
  refine fC_of (by decide) (fun d n P H => ?_)
  obtain ⟨y1, y2⟩ := lay_s12 ⟨s, hs⟩
  obtain ⟨R, hR⟩ : ∃ R, R = 27 + s := ⟨_, rfl⟩
  rw [← hR] at y1 y2 ⊢
  replace H := f_aload_n H k48_0 rfl
  replace H := f_gr H k48_1 (ci := 5) (f := 5) (x := 26) (by decide +kernel) (by decide) (hr 24 5 26 rfl)
  replace H := f_iload_n H k48_4 rfl
  have Hob := f_aald H k48_5 (x := 6) (c := 12) (v := .ref R) (by decide) ((by rw [nI_clamp (by omega), hr 26 s R y2]; rfl))
  clear H
  obtain ⟨hb5, H⟩ := Hob
  replace H := f_iconst H k48_6 (v := 0) (by decide)
  have Hob := f_iald H k48_7 (c := 4) y1
  clear H
  obtain ⟨hb7, H⟩ := Hob
  replace H := f_iret H k48_8
  exact ⟨_, _, H, rfl, rfl⟩
theorem c_endB {m : xM} {s : Nat} (hs : s < 12) (hr : rS m) : fC 49 [.ref 24, .int (nI s)] m (fun rv m' => rv = some (.int (m.1 (27 + s) 1)) ∧ m = m') := by
  refine fC_of (by decide) (fun d n P H => ?_)
  obtain ⟨y1, y2⟩ := lay_s12 ⟨s, hs⟩
  obtain ⟨R, hR⟩ : ∃ R, R = 27 + s := ⟨_, rfl⟩
  rw [← hR] at y1 y2 ⊢
  replace H := f_aload_n H k49_0 rfl
  replace H := f_gr H k49_1 (ci := 5) (f := 5) (x := 26) (by decide +kernel) (by decide) (hr 24 5 26 rfl)
  replace H := f_iload_n H k49_4 rfl
  have Hob := f_aald H k49_5 (x := 6) (c := 12) (v := .ref R) (by decide) ((by rw [nI_clamp (by omega), hr 26 s R y2]; rfl))
  clear H
  obtain ⟨hb5, H⟩ := Hob
  replace H := f_iconst H k49_6 (v := 1) (by decide)
  have Hob := f_iald H k49_7 (c := 4) y1
  clear H
  obtain ⟨hb7, H⟩ := Hob
  replace H := f_iret H k49_8
  exact ⟨_, _, H, rfl, rfl⟩
def sndA (S : tST) (s : Nat) : Prop := S.2.2.2 1 s 0 < S.2.2.2 0 0 0 ∧ S.2.2.2 1 s 1 < S.2.2.2 0 0 0 ∧ S.2.2.2 1 s 0 ≠ S.2.2.2 1 s 1
set_option maxHeartbeats 2000000 in
theorem c_isSound {m : xM} {S : tST} (hr : rS m) (hS : clS m S) (hc : m.1 24 0 = S.2.2.2 0 0 0) : fC 46 [.ref 24] m (fun rv m' => ((snd S ∧ rv = some (.int 1)) ∨ (¬ snd S ∧ rv = some (.int 0))) ∧ m = m') := by
  refine fC_of (by decide) (fun d n P H => ?_)
  obtain ⟨s1, s2, s3, s4, s5, s6, s7, s8, s9⟩ := hS
  have no : ∀ (hn : ¬ snd S), ∀ rv, P rv m → rv = some (.int 0) → ∃ rv m', P rv m' ∧ ((snd S ∧ rv = some (.int 1)) ∨ (¬ snd S ∧ rv = some (.int 0))) ∧ m = m' := fun hn rv h e => ⟨rv, m, h, Or.inr ⟨hn, e⟩, rfl⟩
  have key2 : (∀ q, q < S.1 → sndA S q) → S.1 ≠ 0 → S.2.1 ≠ 0 → ∀ n w, w ≤ S.2.1 → (∀ q, q < w → S.2.2.2 2 q 0 < S.2.2.2 0 0 0) → xF 46 (xw d) P (n + 1) 73 [(1, .int (nI w)), (0, .ref 24)] [] m → ∃ rv m', P rv m' ∧ ((snd S ∧ rv = some (.int 1)) ∨ (¬ snd S ∧ rv = some (.int 0))) ∧ m = m' := by
    intro hA h0 h1 n
    induction n with
    | zero => exact fun w _ _ H => (xF_0 (f1_iload_n H k46_73 rfl)).elim
    | succ n ih =>
      intro w hw hB H
      replace H := f1_iload_n H k46_73 rfl
      replace H := f_aload_n H k46_74 rfl
      replace H := f_gi H k46_75 (ci := 5) (f := 2) (by decide +kernel) (by decide)
      rw [s2] at H
      have Hbr := f_icmp_ge H k46_78 (t := 104) (by decide)
      clear H
      rcases Hbr with ⟨c, H⟩ | ⟨c, H⟩
      · rw [nI_lt2 (by omega) (by omega)] at c
        replace H := f_iconst H k46_104 (v := 1) (by decide)
        replace H := f_iret H k46_105
        exact ⟨_, _, H, Or.inl ⟨⟨h0, h1, hA, fun q hq => hB q (by omega)⟩, rfl⟩, rfl⟩
      · rw [nI_lt2 (by omega) (by omega)] at c
        obtain ⟨y1, y2⟩ := lay_w4 ⟨w, by omega⟩
        obtain ⟨R, hR⟩ : ∃ R, R = 40 + w := ⟨_, rfl⟩
        rw [← hR] at y1 y2
        replace H := f_aload_n H k46_81 rfl
        replace H := f_gr H k46_82 (ci := 5) (f := 6) (x := 39) (by decide +kernel) (by decide) (hr 24 6 39 rfl)
        replace H := f_iload_n H k46_85 rfl
        have Hob := f_aald H k46_86 (x := 6) (c := 4) (v := .ref R) (by decide) ((by rw [nI_clamp (by omega), hr 39 w R y2]; rfl))
        clear H
        obtain ⟨hb86, H⟩ := Hob
        replace H := f_iconst H k46_87 (v := 0) (by decide)
        have Hob := f_iald H k46_88 (c := 2) y1
        clear H
        obtain ⟨hb88, H⟩ := Hob
        replace H := f_aload_n H k46_89 rfl
        replace H := f_gi H k46_90 (ci := 5) (f := 0) (by decide +kernel) (by decide)
        rw [hc, hR, show (0 : Int32).toNatClampNeg = 0 by decide, s6 w 0 (by omega) (by omega)] at H
        have Hbr := f_icmp_lt H k46_93 (t := 98) (by decide)
        clear H
        rcases Hbr with ⟨c2, H⟩ | ⟨c2, H⟩
        · replace H := f_iinc H k46_98 rfl (l2 := [(1, .int (nI w + 1)), (0, .ref 24)]) rfl
          replace H := f_goto H k46_101 (t := 73) (by decide)
          rw [nI_s] at H
          refine ih (w + 1) (by omega) (fun q hq => ?_) H
          by_cases e : q = w
          · rw [e]; exact c2
          · exact hB q (by omega)
        · replace H := f_iconst H k46_96 (v := 0) (by decide)
          replace H := f_iret H k46_97
          exact no (fun z => c2 (z.2.2.2 w (by omega))) _ H rfl
  have key1 : S.1 ≠ 0 → S.2.1 ≠ 0 → ∀ n s, s ≤ S.1 → (∀ q, q < s → sndA S q) → xF 46 (xw d) P (n + 1) 18 [(1, .int (nI s)), (0, .ref 24)] [] m → ∃ rv m', P rv m' ∧ ((snd S ∧ rv = some (.int 1)) ∨ (¬ snd S ∧ rv = some (.int 0))) ∧ m = m' := by
    intro h0 h1 n
    induction n with
    | zero => exact fun w _ _ H => (xF_0 (f1_iload_n H k46_18 rfl)).elim
    | succ n ih =>
      intro s hs hA H
      have bad : ¬ sndA S s → s < S.1 → xF 46 (xw d) P (n + 1) 63 [(1, .int (nI s)), (0, .ref 24)] [] m → ∃ rv m', P rv m' ∧ ((snd S ∧ rv = some (.int 1)) ∨ (¬ snd S ∧ rv = some (.int 0))) ∧ m = m' := by
        intro hb hs H
        replace H := f_iconst H k46_63 (v := 0) (by decide)
        replace H := f_iret H k46_64
        exact no (fun z => hb (z.2.2.1 s hs)) _ H rfl
      replace H := f1_iload_n H k46_18 rfl
      replace H := f_aload_n H k46_19 rfl
      replace H := f_gi H k46_20 (ci := 5) (f := 1) (by decide +kernel) (by decide)
      rw [s1] at H
      have Hbr := f_icmp_ge H k46_23 (t := 71) (by decide)
      clear H
      rcases Hbr with ⟨c, H⟩ | ⟨c, H⟩
      · rw [nI_lt2 (by omega) (by omega)] at c
        replace H := f_iconst H k46_71 (v := 0) (by decide)
        replace H := f_istore_n H k46_72 (l2 := [(1, .int 0), (0, .ref 24)]) rfl
        exact key2 (fun q hq => hA q (by omega)) h0 h1 _ 0 (by omega) (fun q hq => by omega) (f_up H (Nat.le_succ _))
      · rw [nI_lt2 (by omega) (by omega)] at c
        have e0 := s5 s 0 (by omega) (by omega)
        have e1 := s5 s 1 (by omega) (by omega)
        replace H := f_aload_n H k46_26 rfl
        replace H := f_iload_n H k46_27 rfl
        obtain ⟨rv, m', ⟨rfl, rfl⟩, h9_28⟩ := f_inv H k46_28 (by decide +kernel) (as := [.int _]) (b := 24) (r := []) (by rfl) (c_endA (s := s) (by omega) hr)
        replace H := h9_28
        replace H := f_aload_n H k46_31 rfl
        replace H := f_gi H k46_32 (ci := 5) (f := 0) (by decide +kernel) (by decide)
        rw [hc, e0] at H
        have Hbr := f_icmp_ge H k46_35 (t := 63) (by decide)
        clear H
        rcases Hbr with ⟨c2, H⟩ | ⟨c2, H⟩
        · exact bad (fun z => Int32.not_lt.mpr c2 z.1) (by omega) H
        replace H := f_aload_n H k46_38 rfl
        replace H := f_iload_n H k46_39 rfl
        obtain ⟨rv, m', ⟨rfl, rfl⟩, h9_40⟩ := f_inv H k46_40 (by decide +kernel) (as := [.int _]) (b := 24) (r := []) (by rfl) (c_endB (s := s) (by omega) hr)
        replace H := h9_40
        replace H := f_aload_n H k46_43 rfl
        replace H := f_gi H k46_44 (ci := 5) (f := 0) (by decide +kernel) (by decide)
        rw [hc, e1] at H
        have Hbr := f_icmp_ge H k46_47 (t := 63) (by decide)
        clear H
        rcases Hbr with ⟨c3, H⟩ | ⟨c3, H⟩
        · exact bad (fun z => Int32.not_lt.mpr c3 z.2.1) (by omega) H
        replace H := f_aload_n H k46_50 rfl
        replace H := f_iload_n H k46_51 rfl
        obtain ⟨rv, m', ⟨rfl, rfl⟩, h9_52⟩ := f_inv H k46_52 (by decide +kernel) (as := [.int _]) (b := 24) (r := []) (by rfl) (c_endA (s := s) (by omega) hr)
        replace H := h9_52
        replace H := f_aload_n H k46_55 rfl
        replace H := f_iload_n H k46_56 rfl
        obtain ⟨rv, m', ⟨rfl, rfl⟩, h9_57⟩ := f_inv H k46_57 (by decide +kernel) (as := [.int _]) (b := 24) (r := [.int _]) (by rfl) (c_endB (s := s) (by omega) hr)
        replace H := h9_57
        rw [e0, e1] at H
        have Hbr := f_icmp_ne H k46_60 (t := 65) (by decide)
        clear H
        rcases Hbr with ⟨c4, H⟩ | ⟨c4, H⟩
        · replace H := f_iinc H k46_65 rfl (l2 := [(1, .int (nI s + 1)), (0, .ref 24)]) rfl
          replace H := f_goto H k46_68 (t := 18) (by decide)
          rw [nI_s] at H
          refine ih (s + 1) (by omega) (fun q hq => ?_) H
          by_cases e : q = s
          · rw [e]; exact ⟨Int32.not_le.mp c2, Int32.not_le.mp c3, c4⟩
          · exact hA q (by omega)
        · exact bad (fun z => z.2.2 c4) (by omega) H
  have n0 : ∀ a : Nat, a < 13 → (nI a = 0 ↔ a = 0) := fun a ha => ⟨fun e => by
    have := congrArg Int32.toInt e
    rw [nI_toInt (by omega), show (0 : Int32).toInt = 0 by decide] at this
    omega, fun e => by rw [e]; rfl⟩
  replace H := f_aload_n H k46_0 rfl
  replace H := f_gi H k46_1 (ci := 5) (f := 1) (by decide +kernel) (by decide)
  rw [s1] at H
  have Hbr := f_if_eq H k46_4 (t := 14) (by decide)
  clear H
  rcases Hbr with ⟨c, H⟩ | ⟨c, H⟩
  · replace H := f_iconst H k46_14 (v := 0) (by decide)
    replace H := f_iret H k46_15
    exact no (fun z => z.1 ((n0 S.1 (by omega)).mp c)) _ H rfl
  · replace H := f_aload_n H k46_7 rfl
    replace H := f_gi H k46_8 (ci := 5) (f := 2) (by decide +kernel) (by decide)
    rw [s2] at H
    have Hbr := f_if_ne H k46_11 (t := 16) (by decide)
    clear H
    rcases Hbr with ⟨c2, H⟩ | ⟨c2, H⟩
    · replace H := f_iconst H k46_16 (v := 0) (by decide)
      replace H := f_istore_n H k46_17 (l2 := [(1, .int 0), (0, .ref 24)]) rfl
      exact key1 (fun z => c ((n0 S.1 (by omega)).mpr z)) (fun z => c2 ((n0 S.2.1 (by omega)).mpr z)) _ 0 (by omega) (fun q hq => by omega) (f_up H (Nat.le_succ _))
    · replace H := f_iconst H k46_14 (v := 0) (by decide)
      replace H := f_iret H k46_15
      exact no (fun z => z.2.1 ((n0 S.2.1 (by omega)).mp c2)) _ H rfl
/-- the streets that touch a corner (bits) -/
def tchF (g : Nat → Nat → Nat → Int32) (c : Nat) : Nat → Int32
  | 0 => 0
  | s + 1 => if (g 1 s 1).toNatClampNeg = c then (if (g 1 s 0).toNatClampNeg = c then tchF g c s ||| (1 <<< (nI s &&& 31)) else tchF g c s) ||| (1 <<< (nI s &&& 31)) else (if (g 1 s 0).toNatClampNeg = c then tchF g c s ||| (1 <<< (nI s &&& 31)) else tchF g c s)
set_option maxHeartbeats 2000000 in
theorem c_noteTouching {m : xM} {S : tST} (hr : rS m) (hS : clS m S) : fC 47 [.ref 24] m (fun rv m' => rv = none ∧ (∀ a i, ¬ a = 44 → m'.1 a i = m.1 a i) ∧ m'.2 = m.2 ∧ ∀ c, c < 8 → m'.1 44 c = tchF S.2.2.2 c S.1) := by
  refine fC_of (by decide) (fun d n P H => ?_)
  obtain ⟨s1, s2, s3, s4, s5, s6, s7, s8, s9⟩ := hS
  have key2 : ∀ n s m2, s ≤ S.1 → (∀ a i, ¬ a = 44 → m2.1 a i = m.1 a i) → m2.2 = m.2 → (∀ c, c < 8 → m2.1 44 c = tchF S.2.2.2 c s) → xF 47 (xw d) P (n + 1) 23 [(1, .int (nI s)), (0, .ref 24)] [] m2 → ∃ rv m', P rv m' ∧ rv = none ∧ (∀ a i, ¬ a = 44 → m'.1 a i = m.1 a i) ∧ m'.2 = m.2 ∧ ∀ c, c < 8 → m'.1 44 c = tchF S.2.2.2 c S.1 := by
    intro n
    induction n with
    | zero => exact fun s m2 _ _ _ _ H => (xF_0 (f1_iload_n H k47_23 rfl)).elim
    | succ n ih =>
      intro s m2 hs ha hb hc H
      have hr0 := hr
      have hr : rS m2 := rS_2 hr0 hb
      replace H := f1_iload_n H k47_23 rfl
      replace H := f_aload_n H k47_24 rfl
      replace H := f_gi H k47_25 (ci := 5) (f := 1) (by decide +kernel) (by decide)
      rw [ha 24 1 (by omega), s1] at H
      have Hbr := f_icmp_ge H k47_28 (t := 69) (by decide)
      clear H
      rcases Hbr with ⟨c, H⟩ | ⟨c, H⟩
      · rw [nI_lt2 (by omega) (by omega)] at c
        replace H := f_ret H k47_69
        exact ⟨_, _, H, rfl, ha, hb, by rw [show S.1 = s by omega]; exact hc⟩
      · rw [nI_lt2 (by omega) (by omega)] at c
        have e0 := s5 s 0 (by omega) (by omega)
        have e1 := s5 s 1 (by omega) (by omega)
        rw [← ha (27 + s) 0 (by omega)] at e0
        rw [← ha (27 + s) 1 (by omega)] at e1
        replace H := f_aload_n H k47_31 rfl
        replace H := f_gr H k47_32 (ci := 5) (f := 7) (x := 44) (by decide +kernel) (by decide) (hr 24 7 44 rfl)
        replace H := f_aload_n H k47_35 rfl
        replace H := f_iload_n H k47_36 rfl
        obtain ⟨rv, m', ⟨rfl, rfl⟩, h9_37⟩ := f_inv H k47_37 (by decide +kernel) (as := [.int _]) (b := 24) (r := [.ref 44]) (by rfl) (c_endA (s := s) (by omega) hr)
        replace H := h9_37
        replace H := f_dup2 H k47_40
        have Hob := f_iald H k47_41 (c := 8) (by decide)
        clear H
        obtain ⟨hb41, H⟩ := Hob
        replace H := f_iconst H k47_42 (v := 1) (by decide)
        replace H := f_iload_n H k47_43 rfl
        replace H := f_ishl H k47_44
        replace H := f_ior H k47_45
        have Hob := f_iast H k47_46 (c := 8) (by decide)
        clear H
        obtain ⟨hb46, H⟩ := Hob
        replace H := f_aload_n H k47_47 rfl
        replace H := f_gr H k47_48 (ci := 5) (f := 7) (x := 44) (by decide +kernel) (by decide) (hr 24 7 44 rfl)
        replace H := f_aload_n H k47_51 rfl
        replace H := f_iload_n H k47_52 rfl
        obtain ⟨rv, m', ⟨rfl, rfl⟩, h9_53⟩ := f_inv H k47_53 (by decide +kernel) (as := [.int _]) (b := 24) (r := [.ref 44]) (by rfl) (c_endB (s := s) (by omega) hr)
        replace H := h9_53
        replace H := f_dup2 H k47_56
        have Hob := f_iald H k47_57 (c := 8) (by decide)
        clear H
        obtain ⟨hb57, H⟩ := Hob
        replace H := f_iconst H k47_58 (v := 1) (by decide)
        replace H := f_iload_n H k47_59 rfl
        replace H := f_ishl H k47_60
        replace H := f_ior H k47_61
        have Hob := f_iast H k47_62 (c := 8) (by decide)
        clear H
        obtain ⟨hb62, H⟩ := Hob
        replace H := f_iinc H k47_63 rfl (l2 := [(1, .int (nI s + 1)), (0, .ref 24)]) rfl
        replace H := f_goto H k47_66 (t := 23) (by decide)
        rw [nI_s] at H
        obtain ⟨m3, em, H⟩ := f_mem H
        refine ih (s + 1) m3 (by omega) (fun a i h => by rw [em, mI_ne (by omega), mI_ne (by omega)]; exact ha a i h) (by rw [em]; exact hb) (fun q hq => ?_) H
        rw [em, mI_ne (a := 44) (b := 27 + s) (by omega), e0, e1]
        show _ = (if (S.2.2.2 1 s 1).toNatClampNeg = q then _ else _)
        generalize (S.2.2.2 1 s 0).toNatClampNeg = x0
        generalize (S.2.2.2 1 s 1).toNatClampNeg = x1
        by_cases h1 : x1 = q
        · rw [if_pos h1, h1, mI_at]
          by_cases h0 : x0 = q
          · rw [if_pos h0, h0, mI_at, hc q hq]
          · rw [if_neg h0, mI_ne (by omega), hc q hq]
        · rw [if_neg h1, mI_ne (by omega)]
          by_cases h0 : x0 = q
          · rw [if_pos h0, h0, mI_at, hc q hq]
          · rw [if_neg h0, mI_ne (by omega), hc q hq]
  have key1 : ∀ n k m2, k ≤ 8 → (∀ a i, ¬ a = 44 → m2.1 a i = m.1 a i) → m2.2 = m.2 → (∀ c, c < k → m2.1 44 c = 0) → xF 47 (xw d) P (n + 1) 2 [(1, .int (nI k)), (0, .ref 24)] [] m2 → ∃ rv m', P rv m' ∧ rv = none ∧ (∀ a i, ¬ a = 44 → m'.1 a i = m.1 a i) ∧ m'.2 = m.2 ∧ ∀ c, c < 8 → m'.1 44 c = tchF S.2.2.2 c S.1 := by
    intro n
    induction n with
    | zero => exact fun s m2 _ _ _ _ H => (xF_0 (f1_iload_n H k47_2 rfl)).elim
    | succ n ih =>
      intro k m2 hk ha hb hc H
      have hr0 := hr
      have hr : rS m2 := rS_2 hr0 hb
      replace H := f1_iload_n H k47_2 rfl
      replace H := f_bipush H k47_3 (v := 8) (by decide)
      replace H : xF 47 (xw d) P (n + 1) _ [(1, .int (nI k)), (0, .ref 24)] [.int (nI 8), .int (nI k)] m2 := H
      have Hbr := f_icmp_ge H k47_5 (t := 21) (by decide)
      clear H
      rcases Hbr with ⟨c, H⟩ | ⟨c, H⟩
      · rw [nI_lt2 (by omega) (by omega)] at c
        replace H := f_iconst H k47_21 (v := 0) (by decide)
        replace H := f_istore_n H k47_22 (l2 := [(1, .int 0), (0, .ref 24)]) rfl
        exact key2 _ 0 m2 (by omega) ha hb (fun q hq => hc q (by omega)) (f_up H (Nat.le_succ _))
      · rw [nI_lt2 (by omega) (by omega)] at c
        replace H := f_aload_n H k47_8 rfl
        replace H := f_gr H k47_9 (ci := 5) (f := 7) (x := 44) (by decide +kernel) (by decide) (hr 24 7 44 rfl)
        replace H := f_iload_n H k47_12 rfl
        replace H := f_iconst H k47_13 (v := 0) (by decide)
        have Hob := f_iast H k47_14 (c := 8) (by decide)
        clear H
        obtain ⟨hb14, H⟩ := Hob
        replace H := f_iinc H k47_15 rfl (l2 := [(1, .int (nI k + 1)), (0, .ref 24)]) rfl
        replace H := f_goto H k47_18 (t := 2) (by decide)
        rw [nI_s, nI_clamp (by omega)] at H
        obtain ⟨m3, em, H⟩ := f_mem H
        refine ih (k + 1) m3 (by omega) (fun a i h => by rw [em, mI_ne (by omega)]; exact ha a i h) (by rw [em]; exact hb) (fun q hq => ?_) H
        by_cases e : q = k
        · rw [e, em, mI_at]
        · rw [em, mI_ne (by omega)]; exact hc q (by omega)
  replace H := f_iconst H k47_0 (v := 0) (by decide)
  replace H := f_istore_n H k47_1 (l2 := [(1, .int 0), (0, .ref 24)]) rfl
  exact key1 n 0 m (by omega) (fun _ _ _ => rfl) rfl (fun q hq => by omega) (f_up H (Nat.le_succ _))
theorem k41_0 : lkc 0 (kcode 41) = some (.aload_n 0) := by decide +kernel
theorem k41_1 : lkc 1 (kcode 41) = some (.invokevirtual 42) := by decide +kernel
theorem k41_4 : lkc 4 (kcode 41) = some (.aload_n 1) := by decide +kernel
theorem k41_5 : lkc 5 (kcode 41) = some (.invokevirtual 45) := by decide +kernel
theorem k41_8 : lkc 8 (kcode 41) = some (.iconst 0) := by decide +kernel
theorem k41_9 : lkc 9 (kcode 41) = some (.istore_n 2) := by decide +kernel
theorem k41_10 : lkc 10 (kcode 41) = some (.iload_n 2) := by decide +kernel
theorem k41_11 : lkc 11 (kcode 41) = some (.sipush 240) := by decide +kernel
theorem k41_14 : lkc 14 (kcode 41) = some (.if_icmp .gt 47) := by decide +kernel
theorem k41_17 : lkc 17 (kcode 41) = some (.aload_n 0) := by decide +kernel
theorem k41_18 : lkc 18 (kcode 41) = some (.aload_n 1) := by decide +kernel
theorem k41_19 : lkc 19 (kcode 41) = some (.invokevirtual 50) := by decide +kernel
theorem k41_22 : lkc 22 (kcode 41) = some (.ifCond .ne 8) := by decide +kernel
theorem k41_25 : lkc 25 (kcode 41) = some (.aload_n 1) := by decide +kernel
theorem k41_26 : lkc 26 (kcode 41) = some (.getfield 54) := by decide +kernel
theorem k41_29 : lkc 29 (kcode 41) = some (.ireturn) := by decide +kernel
theorem k41_30 : lkc 30 (kcode 41) = some (.aload_n 1) := by decide +kernel
theorem k41_31 : lkc 31 (kcode 41) = some (.invokevirtual 57) := by decide +kernel
theorem k41_34 : lkc 34 (kcode 41) = some (.iconst (-1)) := by decide +kernel
theorem k41_35 : lkc 35 (kcode 41) = some (.if_icmp .ne 6) := by decide +kernel
theorem k41_38 : lkc 38 (kcode 41) = some (.goto 23) := by decide +kernel
theorem k41_41 : lkc 41 (kcode 41) = some (.aload_n 1) := by decide +kernel
theorem k41_42 : lkc 42 (kcode 41) = some (.bipush 59) := by decide +kernel
theorem k41_44 : lkc 44 (kcode 41) = some (.invokevirtual 61) := by decide +kernel
theorem k41_47 : lkc 47 (kcode 41) = some (.ifCond .ne 8) := by decide +kernel
theorem k41_55 : lkc 55 (kcode 41) = some (.iinc 2 1) := by decide +kernel
theorem k41_58 : lkc 58 (kcode 41) = some (.goto (-48)) := by decide +kernel
theorem k41_61 : lkc 61 (kcode 41) = some (.aload_n 0) := by decide +kernel
theorem k41_62 : lkc 62 (kcode 41) = some (.aload_n 0) := by decide +kernel
theorem k41_63 : lkc 63 (kcode 41) = some (.getfield 9) := by decide +kernel
theorem k41_66 : lkc 66 (kcode 41) = some (.iconst 0) := by decide +kernel
theorem k41_67 : lkc 67 (kcode 41) = some (.iaload) := by decide +kernel
theorem k41_68 : lkc 68 (kcode 41) = some (.putfield 26) := by decide +kernel
theorem k41_71 : lkc 71 (kcode 41) = some (.aload_n 0) := by decide +kernel
theorem k41_72 : lkc 72 (kcode 41) = some (.invokevirtual 65) := by decide +kernel
theorem k41_75 : lkc 75 (kcode 41) = some (.ifCond .ne 8) := by decide +kernel
theorem k41_78 : lkc 78 (kcode 41) = some (.aload_n 1) := by decide +kernel
theorem k41_79 : lkc 79 (kcode 41) = some (.getfield 69) := by decide +kernel
theorem k41_82 : lkc 82 (kcode 41) = some (.ireturn) := by decide +kernel
theorem k41_83 : lkc 83 (kcode 41) = some (.aload_n 0) := by decide +kernel
theorem k41_84 : lkc 84 (kcode 41) = some (.invokevirtual 72) := by decide +kernel
theorem k41_87 : lkc 87 (kcode 41) = some (.iconst (-1)) := by decide +kernel
theorem k41_88 : lkc 88 (kcode 41) = some (.ireturn) := by decide +kernel
theorem k42_0 : lkc 0 (kcode 42) = some (.aload_n 0) := by decide +kernel
theorem k42_1 : lkc 1 (kcode 42) = some (.iconst 0) := by decide +kernel
theorem k42_2 : lkc 2 (kcode 42) = some (.putfield 26) := by decide +kernel
theorem k42_5 : lkc 5 (kcode 42) = some (.aload_n 0) := by decide +kernel
theorem k42_6 : lkc 6 (kcode 42) = some (.iconst 0) := by decide +kernel
theorem k42_7 : lkc 7 (kcode 42) = some (.putfield 30) := by decide +kernel
theorem k42_10 : lkc 10 (kcode 42) = some (.aload_n 0) := by decide +kernel
theorem k42_11 : lkc 11 (kcode 42) = some (.iconst 0) := by decide +kernel
theorem k42_12 : lkc 12 (kcode 42) = some (.putfield 33) := by decide +kernel
theorem k42_15 : lkc 15 (kcode 42) = some (.aload_n 0) := by decide +kernel
theorem k42_16 : lkc 16 (kcode 42) = some (.iconst 0) := by decide +kernel
theorem k42_17 : lkc 17 (kcode 42) = some (.putfield 75) := by decide +kernel
theorem k42_20 : lkc 20 (kcode 42) = some (.getstatic 79) := by decide +kernel
theorem k42_23 : lkc 23 (kcode 42) = some (.iconst 0) := by decide +kernel
theorem k42_24 : lkc 24 (kcode 42) = some (.aload_n 0) := by decide +kernel
theorem k42_25 : lkc 25 (kcode 42) = some (.getfield 9) := by decide +kernel
theorem k42_28 : lkc 28 (kcode 42) = some (.iconst 0) := by decide +kernel
theorem k42_29 : lkc 29 (kcode 42) = some (.iconst 2) := by decide +kernel
theorem k42_30 : lkc 30 (kcode 42) = some (.invokestatic 36) := by decide +kernel
theorem k42_33 : lkc 33 (kcode 42) = some (.return_) := by decide +kernel
/-! forward: the class's reader of a town's text: the whole -/
def clF (m : xM) (S : tST) : Prop := clS m S ∧ m.1 24 0 = S.2.2.2 0 0 0 ∧ ∀ c, c < 8 → m.1 44 c = tchF S.2.2.2 c S.1
def clO (N : Nat) (t : Nat → Int32) (S : tST) (h : Nat) (rv : Option Value) (m' : xM) : Prop := ∃ f r, twR N t f S h r ∧ ((∃ S2, r = .inl S2 ∧ rv = some (.int (-1)) ∧ clF m' S2 ∧ snd S2) ∨ ∃ w, r = .inr w ∧ w ≤ N ∧ rv = some (.int (nI w)))
theorem clS_ne {m m' : xM} {S : tST} (hS : clS m S) (h : ∀ a i, (a = 24 ∧ 1 ≤ i) ∨ (25 ≤ a ∧ a ≤ 43) → m'.1 a i = m.1 a i) : clS m' S := by
  obtain ⟨s1, s2, s3, s4, s5, s6, s7, s8, s9⟩ := hS
  exact ⟨by rw [h 24 1 (by omega)]; exact s1, by rw [h 24 2 (by omega)]; exact s2, by rw [h 24 3 (by omega)]; exact s3, fun i hi => by rw [h 25 i (by omega)]; exact s4 i hi, fun s i hs hi => by rw [h (27 + s) i (by omega)]; exact s5 s i hs hi, fun s i hs hi => by rw [h (40 + s) i (by omega)]; exact s6 s i hs hi, s7, s8, s9⟩
theorem twR_bad {N f h w : Nat} {t : Nat → Int32} {S : tST} (e : tcl N t S h = .inr w) : twR N t (f + 1) S h (.inr w) := by
  unfold twR
  rw [e]
theorem twR_end {N f h p : Nat} {t : Nat → Int32} {S S2 : tST} (e : tcl N t S h = .inl (S2, p)) (h1 : atv N t p = -1) (h2 : snd S2) : twR N t (f + 1) S h (.inl S2) := by
  unfold twR
  rw [e]
  dsimp only
  rw [if_pos h1]
  exact Or.inl ⟨h2, rfl⟩
theorem twR_uns {N f h p : Nat} {t : Nat → Int32} {S S2 : tST} (e : tcl N t S h = .inl (S2, p)) (h1 : atv N t p = -1) (h2 : ¬ snd S2) : twR N t (f + 1) S h (.inr N) := by
  unfold twR
  rw [e]
  dsimp only
  rw [if_pos h1]
  exact Or.inr ⟨h2, rfl⟩
theorem twR_go {N f h p : Nat} {t : Nat → Int32} {S S2 : tST} {r : tST ⊕ Nat} (e : tcl N t S h = .inl (S2, p)) (h1 : ¬ atv N t p = -1) (h2 : twR N t f S2 (p + 1) r) : twR N t (f + 1) S h r := by
  unfold twR
  rw [e]
  dsimp only
  rw [if_neg h1]
  exact h2
theorem c_begin {m : xM} (hr : rS m) : fC 42 [.ref 24] m (fun rv m' => rv = none ∧ (∀ a i, ¬ a = 24 → ¬ a = 25 → m'.1 a i = m.1 a i) ∧ m'.2 = m.2 ∧ clS m' tw0) := by
  refine fC_of (by decide) (fun d n P H => ?_)
  replace H := f_aload_n H k42_0 rfl
  replace H := f_iconst H k42_1 (v := 0) (by decide)
  replace H := f_put_i H k42_2 (ci := 5) (f := 0) (by decide +kernel) (by decide)
  replace H := f_aload_n H k42_5 rfl
  replace H := f_iconst H k42_6 (v := 0) (by decide)
  replace H := f_put_i H k42_7 (ci := 5) (f := 1) (by decide +kernel) (by decide)
  replace H := f_aload_n H k42_10 rfl
  replace H := f_iconst H k42_11 (v := 0) (by decide)
  replace H := f_put_i H k42_12 (ci := 5) (f := 2) (by decide +kernel) (by decide)
  replace H := f_aload_n H k42_15 rfl
  replace H := f_iconst H k42_16 (v := 0) (by decide)
  replace H := f_put_b H k42_17 (ci := 5) (f := 3) (by decide +kernel) (by decide)
  replace H := f_getstatic H k42_20 (v := 1005) (by decide +kernel)
  replace H := f_iconst H k42_23 (v := 0) (by decide)
  replace H := f_aload_n H k42_24 rfl
  replace H := f_gr H k42_25 (ci := 5) (f := 4) (x := 25) (by decide +kernel) (by decide) (hr 24 4 25 rfl)
  replace H := f_iconst H k42_28 (v := 0) (by decide)
  replace H := f_iconst H k42_29 (v := 2) (by decide)
  have Hob := f_cpy4 H k42_30 (z := 0) (nb := 2) (na := 2) (by decide +kernel) (by decide) (by decide)
  clear H
  obtain ⟨hb30, H⟩ := Hob
  replace H := f_ret H k42_33
  obtain ⟨m2, em⟩ : ∃ m2, m2 = mC (mI (mI (mI (mI m 24 0 0) 24 1 0) 24 2 0) 24 3 0) 25 (va_cpy (cst 1005) ((mI (mI (mI (mI m 24 0 0) 24 1 0) 24 2 0) 24 3 0).1 25) (Int32.toNatClampNeg 0) (Int32.toNatClampNeg 0) (Int32.toNatClampNeg 2)) := ⟨_, rfl⟩
  rw [← em] at H
  refine ⟨_, m2, H, rfl, fun a i h1 h2 => by rw [em, mC_ne h2, mI_ne (by omega), mI_ne (by omega), mI_ne (by omega), mI_ne (by omega)], by rw [em]; rfl, ?_⟩
  refine ⟨?_, ?_, ?_, fun i hi => ?_, fun s i hs => absurd hs (Nat.not_lt_zero _), fun s i hs => absurd hs (Nat.not_lt_zero _), Nat.zero_le _, Nat.zero_le _, fun _ _ _ => rfl⟩
  · rw [em, mC_ne (by omega), mI_ne (by omega), mI_ne (by omega), mI_at]; rfl
  · rw [em, mC_ne (by omega), mI_ne (by omega), mI_at]; rfl
  · rw [em, mC_ne (by omega), mI_at]; rfl
  · rw [em, mC_at, cpy_at hi (by decide)]; rfl
set_option maxHeartbeats 4000000 in
theorem c_readFromT {m : xM} {N : Nat} {t : Nat → Int32} (q1 : m.1 1 1 = nI N) (hN : N ≤ 240) (ht : m.1 2 = t) (hr : rS m) : fC 41 [.ref 24, .ref 1] m (clO N t tw0 0) := by
  refine fC_of (by decide) (fun d n P H => ?_)
  have key : ∀ n k S h2 m2, tpS m2 N h2 → m2.1 2 = t → rS m2 → clS m2 S → k ≤ h2 → xF 41 (xw d) P (n + 1) 10 [(2, .int (nI k)), (0, .ref 24), (1, .ref 1)] [] m2 → ∃ rv m', P rv m' ∧ clO N t S h2 rv m' := by
    intro n
    induction n with
    | zero => exact fun k S h2 m2 _ _ _ _ _ H => (xF_0 (f1_iload_n H k41_10 rfl)).elim
    | succ n ih =>
      intro k S h2 m2 hm2 ht2 hr hS hk H
      have hh := hm2.2.2.2.1
      replace H := f1_iload_n H k41_10 rfl
      replace H := f_sipush H k41_11 (v := 240) (by decide)
      replace H := f_icmp_gt_f H k41_14 (fun z => by rw [Int32.lt_iff_toInt_lt, nI_toInt (by omega), show (240 : Int32).toInt = 240 by decide] at z; omega)
      replace H := f_aload_n H k41_17 rfl
      replace H := f_aload_n H k41_18 rfl
      obtain ⟨rv, m3, ⟨ht3, hr, ho⟩, h9_19⟩ := f_inv H k41_19 (by decide +kernel) (as := [.ref 1]) (b := 24) (r := []) (by rfl) (c_readClauseT hm2 ht2 hr hS)
      replace H := h9_19
      rcases ho with ⟨S2, p, x1, rfl, hm3, hS3, hat, hsk⟩ | ⟨w, x1, x2, rfl, x4⟩
      · replace H := f_if_ne_t H k41_22 (by decide) (t := 30) (by decide)
        replace H := f_aload_n H k41_30 rfl
        have hge := tcl_ge x1
        have e3 : m3 = mI m3 1 2 (nI p) := (mI_self hm3.2.1).symm
        obtain ⟨rv, m4, ⟨rfl, rfl⟩, h9_31⟩ := f_inv H k41_31 (by decide +kernel) (as := []) (b := 1) (r := []) (by rfl) (c_ahead hm3)
        replace H := h9_31
        rw [ht3, hsk, ← e3] at H
        have hpN : p ≤ N := hm3.2.2.2.1
        replace H := f_iconst H k41_34 (v := -1) (by decide)
        have Hbr := f_icmp_ne H k41_35 (t := 41) (by decide)
        clear H
        rcases Hbr with ⟨c, H⟩ | ⟨c, H⟩
        · have h59 : atv N t p = 59 := hat.resolve_left c
          replace H := f_aload_n H k41_41 rfl
          replace H := f_bipush H k41_42 (v := 59) (by decide)
          obtain ⟨rv, m5, hk2, h9_44⟩ := f_inv H k41_44 (by decide +kernel) (as := [.int _]) (b := 1) (r := []) (by rfl) (c_take (s := 59) hm3 (by decide))
          replace H := h9_44
          rw [ht3, hsk] at hk2
          rcases hk2 with ⟨ha, rfl, e9, hlt⟩ | ⟨ha, -, -⟩
          · have hm5 : tpS m5 N (p + 1) := by rw [e9]; exact tpS_h hm3 (by omega)
            have ht5 : m5.1 2 = t := by rw [e9, mI_row]; exact ht3
            have hr5 : rS m5 := by rw [e9]; exact hr
            have hS5 : clS m5 S2 := clS_ne hS3 (fun a i h => by rw [e9, mI_ne (by omega)])
            replace H := f_if_ne_t H k41_47 (by decide) (t := 55) (by decide)
            replace H := f_iinc H k41_55 rfl (l2 := [(2, .int ((nI k) + 1)), (0, .ref 24), (1, .ref 1)]) rfl
            replace H := f_goto H k41_58 (t := 10) (by decide)
            rw [nI_s] at H
            obtain ⟨rv, m6, hP, f, r, q1, q2⟩ := ih (k + 1) S2 (p + 1) m5 hm5 ht5 hr5 hS5 (by omega) H
            exact ⟨rv, m6, hP, f + 1, r, twR_go x1 c q1, q2⟩
          · exact absurd h59 ha
        · obtain ⟨s1, s2, s3, s4, s5, s6, s7, s8, s9⟩ := id hS3
          replace H := f_goto H k41_38 (t := 61) (by decide)
          replace H := f_aload_n H k41_61 rfl
          replace H := f_aload_n H k41_62 rfl
          replace H := f_gr H k41_63 (ci := 5) (f := 4) (x := 25) (by decide +kernel) (by decide) (hr 24 4 25 rfl)
          replace H := f_iconst H k41_66 (v := 0) (by decide)
          have Hob := f_iald H k41_67 (c := 2) (by decide)
          clear H
          obtain ⟨hb67, H⟩ := Hob
          replace H := f_put_i H k41_68 (ci := 5) (f := 0) (by decide +kernel) (by decide)
          replace H := f_aload_n H k41_71 rfl
          rw [show (0 : Int32).toNatClampNeg = 0 by decide, s4 0 (by omega)] at H
          obtain ⟨m4, em, H⟩ := f_mem H
          have hS4 : clS m4 S2 := clS_ne hS3 (fun a i h => by rw [em, mI_ne (by omega)])
          have hr4 : rS m4 := by rw [em]; exact hr
          have hc4 : m4.1 24 0 = S2.2.2.2 0 0 0 := by rw [em, mI_at]
          have hl4 : m4.1 1 1 = nI N := by rw [em, mI_ne (by omega)]; exact hm3.1
          clear em
          obtain ⟨rv, m5, ⟨ho, rfl⟩, h9_72⟩ := f_inv H k41_72 (by decide +kernel) (as := []) (b := 24) (r := []) (by rfl) (c_isSound hr4 hS4 hc4)
          replace H := h9_72
          rcases ho with ⟨ho, rfl⟩ | ⟨ho, rfl⟩
          · replace H := f_if_ne_t H k41_75 (by decide) (t := 83) (by decide)
            replace H := f_aload_n H k41_83 rfl
            obtain ⟨rv, m6, ⟨rfl, g1, g2, g3⟩, h9_84⟩ := f_inv H k41_84 (by decide +kernel) (as := []) (b := 24) (r := []) (by rfl) (c_noteTouching hr4 hS4)
            replace H := h9_84
            replace H := f_iconst H k41_87 (v := -1) (by decide)
            replace H := f_iret H k41_88
            exact ⟨_, _, H, 1, _, twR_end x1 c ho, Or.inl ⟨S2, rfl, rfl, ⟨clS_ne hS4 (fun a i h => g1 a i (by omega)), by rw [g1 24 0 (by omega)]; exact hc4, g3⟩, ho⟩⟩
          · replace H := f_if_ne_f H k41_75 rfl
            replace H := f_aload_n H k41_78 rfl
            replace H := f_gi H k41_79 (ci := 8) (f := 1) (by decide +kernel) (by decide)
            replace H := f_iret H k41_82
            rw [hl4] at H
            exact ⟨_, _, H, 1, _, twR_uns x1 c ho, Or.inr ⟨N, rfl, Nat.le_refl _, rfl⟩⟩
      · replace H := f_if_ne_f H k41_22 rfl
        replace H := f_aload_n H k41_25 rfl
        replace H := f_gi H k41_26 (ci := 8) (f := 3) (by decide +kernel) (by decide)
        replace H := f_iret H k41_29
        rw [x4] at H
        exact ⟨_, _, H, 1, _, twR_bad x1, Or.inr ⟨w, rfl, x2, rfl⟩⟩
  replace H := f_aload_n H k41_0 rfl
  obtain ⟨rv, m1, ⟨rfl, g1, g2, g3⟩, h9_1⟩ := f_inv H k41_1 (by decide +kernel) (as := []) (b := 24) (r := []) (by rfl) (c_begin hr)
  replace H := h9_1
  have p1 : m1.1 1 1 = nI N := by rw [g1 1 1 (by omega) (by omega)]; exact q1
  have p3 : m1.2.2 1 0 = some 2 := by rw [g2]; exact hr 1 0 2 rfl
  have ht1 : m1.1 2 = t := by rw [← ht]; exact funext fun j => g1 2 j (by omega) (by omega)
  replace H := f_aload_n H k41_4 rfl
  obtain ⟨rv, m2, ⟨rfl, e9⟩, h9_5⟩ := f_inv H k41_5 (by decide +kernel) (as := []) (b := 1) (r := []) (by rfl) (c_rewind0)
  replace H := h9_5
  have hm2 : tpS m2 N 0 := by rw [e9]; exact tpS_w (tpS_r p1 hN p3)
  have ht2 : m2.1 2 = t := by rw [e9, ← ht1]; exact funext fun j => by rw [mI_ne (by omega), mI_ne (by omega)]
  have hr2 : rS m2 := by rw [e9]; exact rS_2 hr g2
  have hS2 : clS m2 tw0 := clS_ne g3 (fun a i h => by rw [e9, mI_ne (by omega), mI_ne (by omega)])
  replace H := f_iconst H k41_8 (v := 0) (by decide)
  replace H := f_istore_n H k41_9 (l2 := [(2, .int 0), (0, .ref 24), (1, .ref 1)]) rfl
  exact key n 0 tw0 0 m2 hm2 ht2 hr2 hS2 (by omega) (f_up H (Nat.le_succ _))
