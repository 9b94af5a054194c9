/-! the feast: least orders, in tables alone -/
def rmB (left c : Nat) : Nat := if left.testBit c = true then left ^^^ 2 ^ c else left
theorem rmB_bit {left c i : Nat} : (rmB left c).testBit i = (left.testBit i && !(decide (c = i))) := by
  by_cases h : left.testBit c = true
  · rw [show rmB left c = left ^^^ 2 ^ c from if_pos h, Nat.testBit_xor, Nat.testBit_two_pow]
    by_cases e : c = i
    · rw [decide_eq_true e, ← e, h]
      rfl
    · rw [decide_eq_false e]
      cases left.testBit i <;> rfl
  · rw [show rmB left c = left from if_neg h]
    by_cases e : c = i
    · have h2 : left.testBit c = false := by
        cases hb : left.testBit c with
        | true => exact absurd hb h
        | false => rfl
      rw [decide_eq_true e, ← e, h2]
      rfl
    · rw [decide_eq_false e]
      cases left.testBit i <;> rfl
theorem rmB_n {left c : Nat} : nI left &&& (nI (2 ^ c) ^^^ -1) = nI (rmB left c) := by
  refine b_ext (fun i hi => ?_)
  rw [b_and, b_xor, bt_nI hi, bt_nI hi, bt_nI hi, b_m1 i hi, rmB_bit, Nat.testBit_two_pow]
  cases left.testBit i <;> cases decide (c = i) <;> rfl
theorem rmB_lt {left c k : Nat} (h : left < 2 ^ k) : rmB left c < 2 ^ k := Nat.lt_pow_two_of_testBit _ (fun i hi => by
  rw [rmB_bit, Nat.testBit_lt_two_pow (Nat.lt_of_lt_of_le h (Nat.pow_le_pow_right (by omega) hi))]
  rfl)
theorem rmB_in {left c i : Nat} (h : (rmB left c).testBit i = true) : left.testBit i = true ∧ c ≠ i := by
  rw [rmB_bit, Bool.and_eq_true] at h
  refine ⟨h.1, fun e => ?_⟩
  rw [decide_eq_true e] at h
  cases h.2
theorem rmB_dn {left c : Nat} (h : left.testBit c = true) : rmB left c < left := Nat.lt_of_le_of_ne (Nat.le_of_testBit (fun i hi => (rmB_in hi).1)) (fun e => by
  have h2 : (rmB left c).testBit c = true := by
    rw [e]
    exact h
  exact (rmB_in h2).2 rfl)
theorem rmB_to {left c i : Nat} (h : left.testBit i = true) (e : c ≠ i) : (rmB left c).testBit i = true := by
  rw [rmB_bit, h, decide_eq_false e]
  rfl
theorem sub_0 {left ch : Nat} : nI left &&& (nI ch ^^^ -1) = nI 0 ↔ ∀ i, i < 32 → left.testBit i = true → ch.testBit i = true := by
  constructor
  · intro h i hi hb
    have h2 := congrArg (fun x => bt x i) h
    have h2 : bt (nI left &&& (nI ch ^^^ -1)) i = bt (nI 0) i := h2
    rw [b_and, b_xor, bt_nI hi, bt_nI hi, bt_nI hi, b_m1 i hi, hb, Nat.zero_testBit] at h2
    cases hc : ch.testBit i with
    | true => rfl
    | false =>
      rw [hc] at h2
      cases h2
  · intro h
    refine b_ext (fun i hi => ?_)
    rw [b_and, b_xor, bt_nI hi, bt_nI hi, bt_nI hi, b_m1 i hi, Nat.zero_testBit]
    cases hb : left.testBit i with
    | false => rfl
    | true =>
      rw [h i hi hb]
      rfl
theorem pcv_s {v k : Nat} : pcv v (k + 1) = pcv v k + (if v.testBit k = true then 1 else 0) := rfl
theorem pcv_z : ∀ k, pcv 0 k = 0 := by
  intro k
  induction k with
  | zero => rfl
  | succ k ih =>
    rw [pcv_s, ih, if_neg (by rw [Nat.zero_testBit]; decide)]
theorem pcv_rm {left c C : Nat} (hc : c < C) (hb : left.testBit c = true) : pcv (rmB left c) C + 1 = pcv left C := by
  have key : ∀ k, pcv (rmB left c) k + (if c < k then 1 else 0) = pcv left k := by
    intro k
    induction k with
    | zero => rfl
    | succ k ih =>
      rw [pcv_s, pcv_s]
      by_cases e : c = k
      · subst e
        rw [if_neg (Nat.lt_irrefl c)] at ih
        rw [if_neg (fun h => (rmB_in h).2 rfl), if_pos hb, if_pos (Nat.lt_succ_self c)]
        omega
      · have e3 : (if c < k + 1 then 1 else 0) = (if c < k then 1 else 0) := by
          by_cases q : c < k
          · rw [if_pos q, if_pos (by omega)]
          · rw [if_neg q, if_neg (by omega)]
        have e4 : (rmB left c).testBit k = left.testBit k := by
          rw [rmB_bit, decide_eq_false e]
          cases left.testBit k <;> rfl
        rw [e3, e4]
        omega
  have := key C
  rw [if_pos hc] at this
  exact this
/-- an order of all of these from here -/
def feL (C : Nat) (D : Mt) : Nat → Nat → List Nat → Prop
  | _, left, [] => left = 0
  | a, left, c :: l => left.testBit c = true ∧ c < C ∧ D a c < 100000 ∧ feL C D c (rmB left c) l
theorem feL_len {C : Nat} {D : Mt} : ∀ l a left, feL C D a left l → l.length = pcv left C := by
  intro l
  induction l with
  | nil =>
    intro a left h
    have h : left = 0 := h
    rw [h, pcv_z]
    rfl
  | cons c l ih =>
    intro a left h
    rw [List.length_cons, ih c _ h.2.2.2]
    exact pcv_rm h.2.1 h.1
theorem feL_lt {C : Nat} {D : Mt} : ∀ l a left, feL C D a left l → ∀ x, x ∈ l → x < C := by
  intro l
  induction l with
  | nil => exact fun a left _ x hx => absurd hx List.not_mem_nil
  | cons c l ih =>
    intro a left h x hx
    rcases List.mem_cons.mp hx with e | e
    · rw [e]; exact h.2.1
    · exact ih c _ h.2.2.2 x e
theorem feL_cost {C : Nat} {D : Mt} : ∀ l a left, feL C D a left l → dwk D a l ≤ 100000 * l.length := by
  intro l
  induction l with
  | nil => exact fun a left _ => Nat.zero_le _
  | cons c l ih =>
    intro a left h
    have := ih c _ h.2.2.2
    have := h.2.2.1
    have e1 : dwk D a (c :: l) = D a c + dwk D c l := rfl
    rw [e1, List.length_cons]
    omega
theorem feL_6 {C : Nat} {D : Mt} {l : List Nat} {a left : Nat} (hC : C ≤ 8) (h : feL C D a left l) : dwk D a l ≤ 800000 := by
  have h1 := feL_cost l a left h
  have h2 := feL_len l a left h
  have h3 := pcv_le left C
  omega
def isM (C : Nat) (D : Mt) (a left v : Nat) : Prop := v ≤ 1000000 ∧ (∀ l, feL C D a left l → v ≤ dwk D a l) ∧ (v = 1000000 ∨ ∃ l, feL C D a left l ∧ dwk D a l = v)
def ynM (C : Nat) (D : Mt) (a left c v : Nat) : Prop := v ≤ 1000000 ∧ (∀ l, feL C D a left (c :: l) → v ≤ dwk D a (c :: l)) ∧ (v = 1000000 ∨ ∃ l, feL C D a left (c :: l) ∧ dwk D a (c :: l) = v)
def feE (C : Nat) (D : Mt) (a left e v : Nat) : Prop := v ≤ 1000000 ∧ (∀ c l, c < e → feL C D a left (c :: l) → v ≤ dwk D a (c :: l)) ∧ (v = 1000000 ∨ ∃ c l, c < e ∧ feL C D a left (c :: l) ∧ dwk D a (c :: l) = v)
theorem isM_0 {C : Nat} {D : Mt} {a : Nat} : isM C D a 0 0 := ⟨Nat.zero_le _, fun _ _ => Nat.zero_le _, Or.inr ⟨[], rfl, rfl⟩⟩
theorem ynM_of {C : Nat} {D : Mt} {a left c F : Nat} (hb : left.testBit c = true) (hc : c < C) (h : isM C D c (rmB left c) F) : ynM C D a left c (if D a c < 100000 then min 1000000 (D a c + F) else 1000000) := by
  obtain ⟨h1, h2, h3⟩ := h
  have e1 : ∀ l, dwk D a (c :: l) = D a c + dwk D c l := fun l => rfl
  by_cases q : D a c < 100000
  · rw [if_pos q]
    refine ⟨Nat.min_le_left _ _, fun l hl => ?_, ?_⟩
    · have := h2 l hl.2.2.2
      rw [e1]
      have := Nat.min_le_right 1000000 (D a c + F)
      omega
    · by_cases z : D a c + F < 1000000
      · rcases h3 with h3 | ⟨l, l1, l2⟩
        · omega
        · exact Or.inr ⟨l, ⟨hb, hc, q, l1⟩, by rw [e1, l2, Nat.min_eq_right (by omega)]⟩
      · exact Or.inl (Nat.min_eq_left (by omega))
  · rw [if_neg q]
    exact ⟨Nat.le_refl _, fun l hl => absurd hl.2.2.1 q, Or.inl rfl⟩
theorem feE_0 {C : Nat} {D : Mt} {a left : Nat} : feE C D a left 0 1000000 := ⟨Nat.le_refl _, fun c l h => absurd h (Nat.not_lt_zero c), Or.inl rfl⟩
theorem feE_no {C : Nat} {D : Mt} {a left e v : Nat} (h : feE C D a left e v) (hb : left.testBit e = false) : feE C D a left (e + 1) v := by
  refine ⟨h.1, fun c l hc hl => ?_, ?_⟩
  · by_cases q : c = e
    · rw [q] at hl
      have := hl.1
      rw [hb] at this
      cases this
    · exact h.2.1 c l (by omega) hl
  · rcases h.2.2 with h | ⟨c, l, h1, h2⟩
    · exact Or.inl h
    · exact Or.inr ⟨c, l, by omega, h2⟩
theorem feE_ye {C : Nat} {D : Mt} {a left e v u : Nat} (h : feE C D a left e v) (g : ynM C D a left e u) : feE C D a left (e + 1) (min v u) := by
  have m1 := Nat.min_le_left v u
  have m2 := Nat.min_le_right v u
  refine ⟨Nat.le_trans m1 h.1, fun c l hc hl => ?_, ?_⟩
  · by_cases q : c = e
    · rw [q] at hl ⊢
      exact Nat.le_trans m2 (g.2.1 l hl)
    · exact Nat.le_trans m1 (h.2.1 c l (by omega) hl)
  · rcases Nat.le_total v u with q | q
    · rw [Nat.min_eq_left q]
      rcases h.2.2 with h | ⟨c, l, h1, h2⟩
      · exact Or.inl h
      · exact Or.inr ⟨c, l, by omega, h2⟩
    · rw [Nat.min_eq_right q]
      rcases g.2.2 with g | ⟨l, g1⟩
      · exact Or.inl g
      · exact Or.inr ⟨e, l, by omega, g1⟩
theorem feE_C {C : Nat} {D : Mt} {a left v : Nat} (h : feE C D a left C v) (hl : left ≠ 0) : isM C D a left v := by
  refine ⟨h.1, fun l hf => ?_, ?_⟩
  · cases l with
    | nil => exact absurd hf hl
    | cons c l => exact h.2.1 c l hf.2.1 hf
  · rcases h.2.2 with h | ⟨c, l, h1, h2⟩
    · exact Or.inl h
    · exact Or.inr ⟨c :: l, h2⟩
/-- c can be next in a least order -/
def nxF (C : Nat) (D : Mt) (a left c : Nat) : Prop := ∃ l, feL C D a left (c :: l) ∧ ∀ k, feL C D a left k → dwk D a (c :: l) ≤ dwk D a k
theorem nxF_iff {C : Nat} {D : Mt} {a left c F y : Nat} (hC : C ≤ 8) (hex : ∃ l, feL C D a left l) (hM : isM C D a left F) (hc : ynM C D a left c y) : y = F ↔ nxF C D a left c := by
  obtain ⟨l0, hl0⟩ := hex
  have b0 := feL_6 hC hl0
  have b1 := hM.2.1 l0 hl0
  constructor
  · intro e
    rcases hc.2.2 with h | ⟨l, h1, h2⟩
    · omega
    · exact ⟨l, h1, fun k hk => by rw [h2, e]; exact hM.2.1 k hk⟩
  · rintro ⟨l, h1, h2⟩
    have b2 := hc.2.1 l h1
    have b3 := hM.2.1 _ h1
    rcases hM.2.2 with h | ⟨k, k1, k2⟩
    · omega
    · have b4 := h2 k k1
      rcases hc.2.2 with h | ⟨l2, g1, g2⟩
      · omega
      · have b5 := hM.2.1 _ g1
        omega
def gfL (C : Nat) (D : Mt) : Nat → Nat → List Nat → Prop
  | _, left, [] => left = 0
  | a, left, c :: l => left.testBit c = true ∧ c < C ∧ nxF C D a left c ∧ (∀ d, d < c → ¬ nxF C D a left d) ∧ gfL C D c (rmB left c) l
theorem op_ex {C : Nat} {D : Mt} {a left : Nat} (hex : ∃ l, feL C D a left l) : ∃ l, feL C D a left l ∧ ∀ k, feL C D a left k → dwk D a l ≤ dwk D a k := by
  obtain ⟨l0, h0⟩ := hex
  obtain ⟨v, -, ⟨l, l1, l2⟩, v3⟩ := lst_ex (P := fun v => ∃ l, feL C D a left l ∧ dwk D a l = v) (dwk D a l0) ⟨l0, h0, rfl⟩
  refine ⟨l, l1, fun k hk => ?_⟩
  rcases Nat.lt_or_ge (dwk D a k) (dwk D a l) with q | q
  · exact absurd ⟨k, hk, rfl⟩ (v3 _ (by omega))
  · exact q
theorem gfL_ex {C : Nat} {D : Mt} : ∀ n a left, (∃ l, feL C D a left l ∧ l.length = n) → ∃ l, gfL C D a left l := by
  intro n
  induction n with
  | zero =>
    rintro a left ⟨l, h1, h2⟩
    cases l with
    | nil => exact ⟨[], h1⟩
    | cons c l =>
      have h2 : l.length + 1 = 0 := h2
      omega
  | succ n ih =>
    rintro a left ⟨l, h1, h2⟩
    obtain ⟨k, k1, k2⟩ := op_ex ⟨l, h1⟩
    cases k with
    | nil =>
      have e1 := feL_len l a left h1
      have e2 := feL_len [] a left k1
      have e2 : 0 = pcv left C := e2
      omega
    | cons c0 k =>
      obtain ⟨c, -, c2, c3⟩ := lst_ex (P := nxF C D a left) c0 ⟨k, k1, k2⟩
      obtain ⟨l2, g1, g2⟩ := id c2
      have e1 := feL_len l a left h1
      have e2 := feL_len _ a left g1
      rw [List.length_cons] at e2
      obtain ⟨l3, h3⟩ := ih c (rmB left c) ⟨l2, g1.2.2.2, by omega⟩
      exact ⟨c :: l3, g1.1, g1.2.1, c2, c3, h3⟩
theorem gfL_ok {C : Nat} {D : Mt} (hC : C ≤ 8) : ∀ l a left, gfL C D a left l → feL C D a left l ∧ (∀ k, feL C D a left k → dwk D a l ≤ dwk D a k) ∧ ∀ k, feL C D a left k → dwk D a k = dwk D a l → ∀ r, rowL r l ≤ rowL r k := by
  intro l
  induction l with
  | nil =>
    intro a left h
    refine ⟨h, fun k _ => Nat.zero_le _, fun k hk _ r => ?_⟩
    have h : left = 0 := h
    have e := feL_len k a left hk
    rw [h, pcv_z] at e
    rw [List.eq_nil_of_length_eq_zero e]
    exact Nat.le_refl _
  | cons c l ih =>
    intro a left h
    obtain ⟨h1, h2, ⟨l0, h3, h4⟩, h5, h6⟩ := h
    obtain ⟨i1, i2, i3⟩ := ih c _ h6
    have e1 : ∀ d k, dwk D a (d :: k) = D a d + dwk D d k := fun d k => rfl
    have hf : feL C D a left (c :: l) := ⟨h1, h2, h3.2.2.1, i1⟩
    have hm : ∀ k, feL C D a left k → dwk D a (c :: l) ≤ dwk D a k := fun k hk => by
      have j1 := h4 k hk
      have j2 := i2 l0 h3.2.2.2
      rw [e1] at j1 ⊢
      omega
    refine ⟨hf, hm, fun k hk he r => ?_⟩
    cases k with
    | nil =>
      have hk : left = 0 := hk
      rw [hk, Nat.zero_testBit] at h1
      cases h1
    | cons d k =>
      have hd : nxF C D a left d := ⟨k, hk, fun k2 hk2 => by rw [he]; exact hm k2 hk2⟩
      have el := feL_len _ a left hk
      have el2 := feL_len _ a left hf
      rw [List.length_cons] at el el2
      show rowL (10 * r + c) l ≤ rowL (10 * r + d) k
      rcases Nat.lt_trichotomy c d with q | q | q
      · exact rowL_lt (fun x hx => Nat.lt_of_lt_of_le (feL_lt l c _ i1 x hx) (by omega)) q (by omega)
      · subst q
        rw [e1, e1] at he
        exact i3 k hk.2.2.2 (by omega) _
      · exact absurd hd (h5 d q)
/-- tables in which one can come on from where one comes to, and back -/
def feH (C : Nat) (D : Mt) : Prop := mle 100000 D ∧ (∀ a c b, a < C → c < C → b < C → D a c < 100000 → D c b < 100000 → D a b < 100000) ∧ ∀ a b, a < C → b < C → D a b < 100000 → D b a < 100000
theorem fe_all {C : Nat} {D : Mt} (h : feH C D) : ∀ l a left, a < C → feL C D a left l → ∀ v, left.testBit v = true → v < C ∧ D a v < 100000 := by
  intro l
  induction l with
  | nil =>
    intro a left _ hl v hv
    have hl : left = 0 := hl
    rw [hl, Nat.zero_testBit] at hv
    cases hv
  | cons c l ih =>
    intro a left ha hl v hv
    obtain ⟨h1, h2, h3, h4⟩ := hl
    by_cases e : c = v
    · rw [← e]
      exact ⟨h2, h3⟩
    · obtain ⟨i1, i2⟩ := ih c _ h2 h4 v (rmB_to hv e)
      exact ⟨i1, h.2.1 a c v ha h2 i1 h3 i2⟩
theorem bit_ex {v C : Nat} : (∃ c, c < C ∧ v.testBit c = true) ∨ ∀ c, c < C → v.testBit c = false := by
  by_cases h : ∃ c, c < C ∧ v.testBit c = true
  · exact Or.inl h
  · refine Or.inr (fun c hc => ?_)
    cases hb : v.testBit c with
    | true => exact absurd ⟨c, hc, hb⟩ h
    | false => rfl
theorem fe_ex {C : Nat} {D : Mt} (h : feH C D) : ∀ n a left, a < C → pcv left C = n → (∀ v, left.testBit v = true → v < C ∧ D a v < 100000) → ∃ l, feL C D a left l := by
  intro n
  induction n with
  | zero =>
    intro a left ha hn hv
    refine ⟨[], Nat.eq_of_testBit_eq (fun i => ?_)⟩
    rw [Nat.zero_testBit]
    cases hb : left.testBit i with
    | false => rfl
    | true =>
      have := pcv_rm (hv i hb).1 hb
      omega
  | succ n ih =>
    intro a left ha hn hv
    rcases bit_ex (v := left) (C := C) with ⟨c, hc, hb⟩ | hb
    · have e := pcv_rm hc hb
      obtain ⟨l, hl⟩ := ih c (rmB left c) hc (by omega) (fun v hv2 => by
        obtain ⟨g1, g2⟩ := rmB_in hv2
        obtain ⟨g3, g4⟩ := hv v g1
        exact ⟨g3, h.2.1 c a v hc ha g3 (h.2.2 a c ha hc (hv c hb).2) g4⟩)
      exact ⟨c :: l, hb, hc, (hv c hb).2, hl⟩
    · have : left = 0 := Nat.eq_of_testBit_eq (fun i => by
        rw [Nat.zero_testBit]
        cases hb2 : left.testBit i with
        | false => rfl
        | true =>
          rw [hb i (hv i hb2).1] at hb2
          cases hb2)
      rw [this, pcv_z] at hn
      omega
theorem rowL_sh : ∀ l r, rowL r l = r * 10 ^ l.length + rowL 0 l := by
  intro l
  induction l with
  | nil => exact fun r => by show r = r * 10 ^ 0 + 0; omega
  | cons c l ih =>
    intro r
    show rowL (10 * r + c) l = r * 10 ^ (l.length + 1) + rowL (10 * 0 + c) l
    rw [ih (10 * r + c), ih (10 * 0 + c), Nat.add_mul, Nat.pow_succ, Nat.mul_comm (10 ^ l.length) 10, ← Nat.mul_assoc, Nat.mul_comm r 10, Nat.mul_zero, Nat.zero_add]
    omega
/-- what the reference comes to from here: yards and row -/
def fsS (C : Nat) (D : Mt) (a left y r : Nat) (t : Nat × Nat × Nat) : Prop := ∃ l, feL C D a left l ∧ t = (y + dwk D a l, 0, rowL r l)
def fsU (C : Nat) (D : Mt) (a left y r e : Nat) (t : Nat × Nat × Nat) : Prop := ∃ c l, c < e ∧ feL C D a left (c :: l) ∧ t = (y + dwk D a (c :: l), 0, rowL r (c :: l))
theorem fsU_C {C : Nat} {D : Mt} {a left y r : Nat} (h : left ≠ 0) (t : Nat × Nat × Nat) : fsU C D a left y r C t ↔ fsS C D a left y r t := by
  constructor
  · rintro ⟨c, l, -, h2, h3⟩
    exact ⟨c :: l, h2, h3⟩
  · rintro ⟨l, h2, h3⟩
    cases l with
    | nil => exact absurd h2 h
    | cons c l => exact ⟨c, l, h2.2.1, h2, h3⟩
theorem fsU_no {C : Nat} {D : Mt} {a left y r e : Nat} (h : ¬ (left.testBit e = true ∧ D a e < 100000)) (t : Nat × Nat × Nat) : fsU C D a left y r e t ↔ fsU C D a left y r (e + 1) t := by
  constructor
  · rintro ⟨c, l, h1, h2⟩
    exact ⟨c, l, by omega, h2⟩
  · rintro ⟨c, l, h1, h2, h3⟩
    by_cases q : c = e
    · subst q
      exact absurd ⟨h2.1, h2.2.2.1⟩ h
    · exact ⟨c, l, by omega, h2, h3⟩
theorem fsU_ye {C : Nat} {D : Mt} {a left y r e : Nat} (he : e < C) (h1 : left.testBit e = true) (h2 : D a e < 100000) (t : Nat × Nat × Nat) : (fsU C D a left y r e t ∨ fsS C D e (rmB left e) (y + D a e) (10 * r + e) t) ↔ fsU C D a left y r (e + 1) t := by
  have q : ∀ l : List Nat, (y + D a e + dwk D e l, 0, rowL (10 * r + e) l) = (y + dwk D a (e :: l), 0, rowL r (e :: l)) := fun l => by
    have e1 : dwk D a (e :: l) = D a e + dwk D e l := rfl
    rw [e1, show y + D a e + dwk D e l = y + (D a e + dwk D e l) by omega]
    rfl
  constructor
  · rintro (⟨c, l, g1, g2⟩ | ⟨l, g2, g3⟩)
    · exact ⟨c, l, by omega, g2⟩
    · exact ⟨e, l, by omega, ⟨h1, he, h2, g2⟩, g3.trans (q l)⟩
  · rintro ⟨c, l, g1, g3, g4⟩
    by_cases z : c = e
    · subst z
      exact Or.inr ⟨l, g3.2.2.2, g4.trans (q l).symm⟩
    · exact Or.inl ⟨c, l, by omega, g3, g4⟩
/-- the answer -/
def fsB (C : Nat) (D : Mt) (a left : Nat) (l : List Nat) : Prop := feL C D a left l ∧ ∀ k, feL C D a left k → dwk D a l < dwk D a k ∨ (dwk D a l = dwk D a k ∧ ∀ r, rowL r l ≤ rowL r k)
theorem fsB_1 {C : Nat} {D : Mt} {a left : Nat} {l k : List Nat} (h : fsB C D a left l) (g : fsB C D a left k) : dwk D a l = dwk D a k ∧ ∀ r, rowL r l = rowL r k := by
  rcases h.2 k g.1 with q | ⟨q1, q2⟩ <;> rcases g.2 l h.1 with p | ⟨p1, p2⟩
  · omega
  · omega
  · omega
  · exact ⟨q1, fun r => Nat.le_antisymm (q2 r) (p2 r)⟩
theorem fsB_g {C : Nat} {D : Mt} {a left : Nat} {l : List Nat} (hC : C ≤ 8) (h : gfL C D a left l) : fsB C D a left l := by
  obtain ⟨h1, h2, h3⟩ := gfL_ok hC l a left h
  refine ⟨h1, fun k hk => ?_⟩
  rcases Nat.lt_or_ge (dwk D a l) (dwk D a k) with q | q
  · exact Or.inl q
  · have := h2 k hk
    exact Or.inr ⟨by omega, h3 k hk (by omega)⟩
theorem fsB_lo {C : Nat} {D : Mt} {a left r : Nat} {b2 : Option (Nat × Nat × Nat)} (h : lo3 none b2 (fsS C D a left 0 r)) : (b2 = none ∧ ¬ ∃ l, feL C D a left l) ∨ ∃ l, fsB C D a left l ∧ b2 = some (dwk D a l, 0, rowL r l) := by
  obtain ⟨h1, -, h3⟩ := h
  rcases h1 with e | ⟨t, e, l, l1, l2⟩
  · refine Or.inl ⟨e, fun ⟨l, hl⟩ => ?_⟩
    obtain ⟨u, u1, -⟩ := h3 _ ⟨l, hl, rfl⟩
    rw [e] at u1
    cases u1
  · rw [Nat.zero_add] at l2
    refine Or.inr ⟨l, ⟨l1, fun k hk => ?_⟩, by rw [e, l2]⟩
    obtain ⟨u, u1, u2⟩ := h3 _ ⟨k, hk, rfl⟩
    rw [e] at u1
    cases u1
    rw [l2, Nat.zero_add] at u2
    have u2 : dwk D a l < dwk D a k ∨ (dwk D a l = dwk D a k ∧ (0 < 0 ∨ (0 = 0 ∧ rowL r l ≤ rowL r k))) := u2
    rcases u2 with q | ⟨q, q2 | ⟨-, q3⟩⟩
    · exact Or.inl q
    · exact absurd q2 (Nat.lt_irrefl 0)
    · refine Or.inr ⟨q, fun r2 => ?_⟩
      have e1 := feL_len l a left l1
      have e2 := feL_len k a left hk
      have s1 := rowL_sh l r
      have s2 := rowL_sh k r
      have s3 := rowL_sh l r2
      have s4 := rowL_sh k r2
      rw [e1] at s1 s3
      rw [e2] at s2 s4
      omega
def fsV (C : Nat) (D : Mt) (ch : Nat) (z y v : Int32) : Prop := (∃ a q, a < C ∧ q < 2 ∧ z = nI a ∧ y = nI q ∧ ((ch = 0 ∧ v = if q = 0 then 0 else -1) ∨ (ch ≠ 0 ∧ (¬ ∃ l, feL C D a (rmB ch a) l) ∧ v = -1) ∨ (ch ≠ 0 ∧ ∃ l, fsB C D a (rmB ch a) l ∧ v = if q = 0 then nI (dwk D a l) else nI (rowL (if ch.testBit a = true then a else 0) l)))) ∨ (¬ ((∃ a, a < C ∧ z = nI a) ∧ ∃ q, q < 2 ∧ y = nI q) ∧ v = -1)
theorem fsV_1 {C : Nat} {D : Mt} {ch : Nat} {z y v u : Int32} (hC : C ≤ 8) (h : fsV C D ch z y v) (g : fsV C D ch z y u) : v = u := by
  rcases h with ⟨a, q, h1, h2, h3, h4, h5⟩ | ⟨h1, h2⟩
  · rcases g with ⟨c, p, g1, g2, g3, g4, g5⟩ | ⟨g1, g2⟩
    · have e1 : a = c := (nI_inj (by omega) (by omega)).mp (h3.symm.trans g3)
      have e2 : q = p := (nI_inj (by omega) (by omega)).mp (h4.symm.trans g4)
      subst e1 e2
      rcases h5 with ⟨h6, h7⟩ | ⟨h6, h7, h8⟩ | ⟨h6, l, h7, h8⟩ <;> rcases g5 with ⟨g6, g7⟩ | ⟨g6, g7, g8⟩ | ⟨g6, k, g7, g8⟩
      · exact h7.trans g7.symm
      · exact absurd h6 g6
      · exact absurd h6 g6
      · exact absurd g6 h6
      · exact h8.trans g8.symm
      · exact absurd ⟨k, g7.1⟩ h7
      · exact absurd g6 h6
      · exact absurd ⟨l, h7.1⟩ g7
      · obtain ⟨d1, d2⟩ := fsB_1 h7 g7
        rw [h8, g8, d1, d2]
    · exact absurd ⟨⟨a, h1, h3⟩, q, h2, h4⟩ g1
  · rcases g with ⟨c, d, g1, g2, g3, g4, g5⟩ | ⟨g1, g2⟩
    · exact absurd ⟨⟨c, g1, g3⟩, d, g2, g4⟩ h1
    · exact h2.trans g2.symm
