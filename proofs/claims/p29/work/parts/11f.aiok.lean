/-! L2: an instruction by intervals says what the machine does -/
theorem u2_on {f : Nat → Nat → Int32} {a i : Nat} {v : Int32} : u2 f a i v a i = v := by simp [u2]
theorem u2_off {f : Nat → Nat → Int32} {a i b j : Nat} {v : Int32} (h : ¬ (b = a ∧ j = i)) : u2 f a i v b j = f b j := by
  unfold u2
  by_cases e : b = a
  · rw [if_pos e, if_neg (fun z => h ⟨e, z⟩), e]
  · rw [if_neg e]
theorem bool_of {x : Int32} (h : 0 ≤ x.toInt ∧ x.toInt ≤ 1) : x = 0 ∨ x = 1 := by
  by_cases e : x.toInt = 0
  · exact Or.inl (Int32.toInt_inj.mp (by rw [e]; decide))
  · exact Or.inr (Int32.toInt_inj.mp (by rw [show x.toInt = 1 by omega]; decide))
theorem gSt_app {s0 : Nat → Int} {l : List (Nat × Value)} {m : xM} : ∀ {st : List Value} {S : List aV} {st2 : List Value} {S2 : List aV}, gSt s0 l m st S → gSt s0 l m st2 S2 → gSt s0 l m (st ++ st2) (S ++ S2)
  | [], [], _, _, _, h2 => h2
  | _ :: _, _ :: _, _, _, h, h2 => ⟨h.1, gSt_app h.2 h2⟩
  | [], _ :: _, _, _, h, _ => h.elim
  | _ :: _, [], _, _, h, _ => h.elim
theorem cat1 {s0 : Nat → Int} {l : List (Nat × Value)} {m : xM} {x : Value} {a : aV} (h : aG s0 l m x a) (hk : a.1 ≤ 1) : x.category = 1 := by
  rcases h.1 with ⟨h1, b, hb, _⟩ | ⟨h1, b, hb, _⟩ | ⟨h1, b, hb, _⟩
  · rw [hb]; rfl
  · rw [hb]; rfl
  · omega
theorem rv_app {s0 : Nat → Int} {l : List (Nat × Value)} {m : xM} {rv : Option Value} {rvA : Option aV} {st : List Value} {S : List aV} (h : match rvA with | none => rv = none | some a => ∃ x, rv = some x ∧ aG s0 l m x a) (hS : gSt s0 l m st S) : gSt s0 l m (rv.toList ++ st) (rvA.toList ++ S) := by
  cases rvA with
  | none =>
    have h : rv = none := h
    subst h
    exact hS
  | some a =>
    obtain ⟨x, e, h⟩ := h
    subst e
    exact ⟨h, hS⟩
theorem gSt_kil2 {s0 : Nat → Int} {l l' : List (Nat × Value)} {m : xM} {j : Nat} (hl : ∀ i x, lkl i l = some x → i ≠ j → i ≠ j + 1 → ¬ (i + 1 = j ∧ x.category = 2) → lkl i l' = some x) {st : List Value} {S : List aV} (h : gSt s0 l m st S) : gSt s0 l' m st (kilJ j (kilJ (j + 1) S)) := by
  unfold kilJ
  rw [qmp_eq, qmp_eq, List.map_map]
  refine gSt_map (fun x a ha => ?_) h
  show aG s0 l' m x (bif sdj j (bif sdj (j + 1) a then aNs a else a) then aNs (bif sdj (j + 1) a then aNs a else a) else (bif sdj (j + 1) a then aNs a else a))
  cases e : sdj (j + 1) a with
  | true =>
    show aG s0 l' m x (bif sdj j (aNs a) then aNs (aNs a) else aNs a)
    cases sdj j (aNs a) <;> exact ⟨aH_ns ha.1, sK_0 rfl⟩
  | false =>
    show aG s0 l' m x (bif sdj j a then aNs a else a)
    cases e2 : sdj j a with
    | true => exact ⟨aH_ns ha.1, sK_0 rfl⟩
    | false =>
      show aG s0 l' m x a
      refine ⟨ha.1, fun z hz => ?_, fun w hw => ?_⟩
      · obtain ⟨g1, g2, g3⟩ := ha.2.1 z hz
        simp only [sdj, Bool.or_eq_false_iff, Bool.and_eq_false_iff, beqF] at e e2
        obtain ⟨e1, e3⟩ := e
        obtain ⟨e4, e5⟩ := e2
        refine ⟨fun c => hl _ _ (g1 c) (by rcases e4 with e4 | e4 <;> omega) (by rcases e1 with e1 | e1 <;> omega) (fun z => by cases z.2), g2, fun c => ?_⟩
        obtain ⟨w, g4, g5⟩ := g3 c
        refine ⟨w, hl _ _ g4 ?_ ?_ ?_, g5⟩ <;> rcases e3 with ⟨e3, e6⟩ | ⟨e3, e6⟩ <;> rcases e5 with ⟨e5, e7⟩ | ⟨e5, e7⟩ <;> omega
      · obtain ⟨g1, g2⟩ := ha.2.2 w hw
        have hk : Nat.ble 2 a.1 = true := by
          rcases ha.1 with ⟨_, b, hb, _⟩ | ⟨_, b, hb, _⟩ | ⟨h1, _⟩
          · rw [hw] at hb; cases hb
          · rw [hw] at hb; cases hb
          · exact bleN.mpr (by omega)
        simp only [sdj, Bool.or_eq_false_iff, Bool.and_eq_false_iff, beqF, hk] at e e2
        obtain ⟨e1, e3⟩ := e
        obtain ⟨e4, e5⟩ := e2
        refine ⟨fun c => ?_, fun c => ?_⟩
        · obtain ⟨z, g4, g5⟩ := g1 c
          exact ⟨z, hl _ _ g4 (by rcases e4 with e4 | e4 <;> omega) (by rcases e1 with e1 | e1 <;> omega) (fun z => by cases z.2), g5⟩
        · refine hl _ _ (g2 c) ?_ ?_ ?_ <;> rcases e3 with ⟨e3, e6 | e6⟩ | ⟨e3, e6⟩ <;> rcases e5 with ⟨e5, e7 | e7⟩ | ⟨e5, e7⟩ <;> first | omega | cases e6 | cases e7
section AIOK
variable {tS : Nat → List (Nat × Int × Int)} {tR : Nat → Nat → Option Nat} {m0 : xM} {M : List (Nat × Nat × Nat)} {s0 : Nat → Int} {k : Nat}
variable {cA : Nat → List aV → (Option aV → (aLs → aLs) → (List aV → List aV) → (aFs → aFs) → Bool) → aFs → Bool} {kA : Nat → aLs → List aV → aFs → Bool} {rA : Option aV → aLs → aFs → Bool}
variable {ca : Nat → List Value → xM → (Option Value → xM → Prop) → Prop} {kk : Nat → List (Nat × Value) → List Value → xM → Prop} {Qp : Option Value → xM → Prop}
def rvK (s0 : Nat → Int) (l : List (Nat × Value)) (m : xM) (v : Option Value) : Option aV → Prop
  | none => v = none
  | some a => ∃ x, v = some x ∧ aG s0 l m x a
def kOk (tS : Nat → List (Nat × Int × Int)) (tR : Nat → Nat → Option Nat) (m0 : xM) (M : List (Nat × Nat × Nat)) (s0 : Nat → Int) (kA : Nat → aLs → List aV → aFs → Bool) (kk : Nat → List (Nat × Value) → List Value → xM → Prop) : Prop := ∀ pc L S F l st m, kA pc L S F = true → gI tS tR m → gM m0 M m → gL s0 l L → gSt s0 l m st S → gF m F → kk pc l st m
def rOk (tS : Nat → List (Nat × Int × Int)) (tR : Nat → Nat → Option Nat) (m0 : xM) (M : List (Nat × Nat × Nat)) (s0 : Nat → Int) (rA : Option aV → aLs → aFs → Bool) (Qp : Option Value → xM → Prop) : Prop := ∀ rv L F l m v, rA rv L F = true → gI tS tR m → gM m0 M m → gL s0 l L → gF m F → rvK s0 l m v rv → Qp v m
def cOk (tS : Nat → List (Nat × Int × Int)) (tR : Nat → Nat → Option Nat) (m0 : xM) (M : List (Nat × Nat × Nat)) (s0 : Nat → Int) (cA : Nat → List aV → (Option aV → (aLs → aLs) → (List aV → List aV) → (aFs → aFs) → Bool) → aFs → Bool) (ca : Nat → List Value → xM → (Option Value → xM → Prop) → Prop) : Prop := ∀ j as Ka F, cA j as Ka F = true → ∀ l m vs, gI tS tR m → gM m0 M m → gF m F → gSt s0 l m vs as → ∀ B : Option Value → xM → Prop, (∀ rv m', (∃ rvA fL fS fF, Ka rvA fL fS fF = true ∧ gI tS tR m' ∧ gM m0 M m' ∧ gF m' (fF F) ∧ (∀ L, gL s0 l L → gL s0 l (fL L)) ∧ (∀ st S, gSt s0 l m st S → gSt s0 l m' st (fS S)) ∧ rvK s0 l m' rv rvA) → B rv m') → ca j vs m B
theorem popA_ok {l : List (Nat × Value)} {m : xM} : ∀ {n : Nat} {S as R : List aV} {st : List Value}, popA n S = some (as, R) → gSt s0 l m st S → ∃ vs r, pops n st = some (vs, r) ∧ gSt s0 l m vs as ∧ gSt s0 l m r R
  | 0, S, as, R, st, h, hS => by
    cases h
    exact ⟨[], st, rfl, trivial, hS⟩
  | n + 1, [], as, R, st, h, hS => by cases h
  | n + 1, v :: S, as, R, st, h, hS => by
    unfold popA at h
    cases e : popA n S with
    | none => simp only [e] at h; cases h
    | some p =>
      obtain ⟨a, r⟩ := p
      simp only [e] at h
      cases h
      obtain ⟨x, r9, e1, h1, h2⟩ := gSt_c hS
      obtain ⟨vs, r8, e2, h3, h4⟩ := popA_ok e h2
      subst e1
      refine ⟨vs ++ [x], r8, ?_, gSt_app h3 ⟨h1, trivial⟩, h4⟩
      show (pops n r9).map (fun q => (q.1 ++ [x], q.2)) = _
      rw [e2]
      rfl
theorem aCat_ok {l : List (Nat × Value)} {m : xM} {x : Value} {a : aV} (h : aG s0 l m x a) : x.category = aCat a := by
  unfold aCat
  rcases h.1 with ⟨h1, b, hb, _⟩ | ⟨h1, b, hb, _⟩ | ⟨h1, b, hb, _⟩
  · rw [h1, hb]; rfl
  · rw [h1, hb]; rfl
  · rcases h1 with h1 | h1 <;> rw [h1, hb] <;> rfl
theorem aCats_ok {l : List (Nat × Value)} {m : xM} : ∀ {st : List Value} {S : List aV}, gSt s0 l m st S → (st.map fun v => v.category).sum = (S.map aCat).sum
  | [], [], _ => rfl
  | x :: st, a :: S, h => by
    rw [List.map_cons, List.map_cons, List.sum_cons, List.sum_cons, aCat_ok h.1, aCats_ok h.2]
  | [], _ :: _, h => h.elim
  | _ :: _, [], h => h.elim
theorem ix_ok {j : aV} {n : Nat} {x : Int32} (h : ix j n = true) (hx : j.2.2.1 ≤ x.toInt ∧ x.toInt ≤ j.2.2.2.1) : vp_in x n ∧ j.2.2.1.toNat ≤ x.toNatClampNeg ∧ x.toNatClampNeg ≤ j.2.2.2.1.toNat := by
  unfold ix at h
  simp only [Bool.and_eq_true, ile_iff] at h
  have e : x.toNatClampNeg = x.toInt.toNat := rfl
  have h2 : (Int.ofNat n : Int) = n := rfl
  refine ⟨vp_in_iff.mpr (by omega), by omega, by omega⟩
theorem bif_ff {b c : Bool} (h : (bif b then c else true) = true) (hb : b = true) : c = true := by
  rw [hb] at h
  exact h
theorem swA_ok {m : xM} {F : aFs} (hI : gI tS tR m) {l : List (Nat × Value)} {xa : aV} {x : Int32} {L : aLs} {R : List aV} {pc : Nat} (hL : gL s0 l L) (hF : gF m F) (hs : sOk l m x xa.2.2.2.2.1) (hx : xa.2.2.1 ≤ x.toInt ∧ x.toInt ≤ xa.2.2.2.1) : ∀ {os : List Int} {v : Int}, swA tS kA pc xa L R F v os = true → ∀ i : Nat, x.toInt = v + i → i < os.length → ∃ o, os[i]? = some o ∧ ∃ L' F', kA (tgt pc o) L' R F' = true ∧ gL s0 l L' ∧ gF m F'
  | [], v, h, i, e, hi => by cases hi
  | o :: t, v, h, i, e, hi => by
    unfold swA at h
    simp only [Bool.and_eq_true] at h
    cases i with
    | zero => exact ⟨o, rfl, br1_ok hI h.1 hL hF hs hx (by omega)⟩
    | succ i =>
      obtain ⟨o', h1, h2⟩ := swA_ok hI hL hF hs hx h.2 i (by omega) (by simpa using hi)
      exact ⟨o', by simpa using h1, h2⟩
theorem lswA_ok {m : xM} {F : aFs} (hI : gI tS tR m) {l : List (Nat × Value)} {xa : aV} {x : Int32} {L : aLs} {R : List aV} {pc : Nat} {d : Int} (hd : kA (tgt pc d) L R F = true) (hL : gL s0 l L) (hF : gF m F) (hs : sOk l m x xa.2.2.2.2.1) (hx : xa.2.2.1 ≤ x.toInt ∧ x.toInt ≤ xa.2.2.2.1) : ∀ {ps : List (Int × Int)}, lswA tS kA pc xa L R F ps = true → ∃ L' F', kA (tgt pc (osw ps d x.toInt)) L' R F' = true ∧ gL s0 l L' ∧ gF m F'
  | [], _ => ⟨L, F, hd, hL, hF⟩
  | (v, o) :: t, h => by
    unfold lswA at h
    simp only [Bool.and_eq_true] at h
    unfold osw
    by_cases e : x.toInt = v
    · rw [if_pos e]
      exact br1_ok hI h.1 hL hF hs hx (by omega)
    · rw [if_neg e]
      exact lswA_ok hI hd hL hF hs hx h.2
theorem cpC_ok {m : xM} (hI : gI tS tR m) {src dst sp dp : Nat} : ∀ {n : Nat}, cpC tS src dst sp dp n = true → ∀ i, i < n → (gseg (dp + i) (tS dst)).1 ≤ (m.1 src (sp + i)).toInt ∧ (m.1 src (sp + i)).toInt ≤ (gseg (dp + i) (tS dst)).2
  | 0, _, i, hi => by cases hi
  | n + 1, h, i, hi => by
    unfold cpC at h
    simp only [Bool.and_eq_true] at h
    by_cases e : i = n
    · subst e
      exact gck_ok (Nat.le_refl _) (Nat.le_refl _) (hI.1 src (sp + i)) h.1
    · exact cpC_ok hI h.2 i (by omega)
theorem cpK_ok {src dst sp dp : Nat} : ∀ {n : Nat}, cpK tS src dst sp dp n = true → ∀ i, i < n → (gseg (dp + i) (tS dst)).1 ≤ (cst src (sp + i)).toInt ∧ (cst src (sp + i)).toInt ≤ (gseg (dp + i) (tS dst)).2
  | 0, _, i, hi => by cases hi
  | n + 1, h, i, hi => by
    unfold cpK at h
    simp only [Bool.and_eq_true] at h
    by_cases e : i = n
    · subst e
      exact gck_ok (Nat.le_refl _) (Nat.le_refl _) ⟨Int.le_refl _, Int.le_refl _⟩ h.1
    · exact cpK_ok h.2 i (by omega)
theorem i32_0 : (0 : Int32).toInt = 0 := by decide
theorem i64_0 : (0 : Int64).toInt = 0 := by decide
set_option maxHeartbeats 16000000 in
set_option maxRecDepth 20000 in
theorem ai_ok (hk : kOk tS tR m0 M s0 kA kk) (hr : rOk tS tR m0 M s0 rA Qp) (hc : cOk tS tR m0 M s0 cA ca) (i : Instr) {pc : Nat} {L : aLs} {S : List aV} {F : aFs} {l : List (Nat × Value)} {st : List Value} {m : xM} (h : ai tS tR M k cA kA rA i pc L S F = true) (hI : gI tS tR m) (hM : gM m0 M m) (hL : gL s0 l L) (hS : gSt s0 l m st S) (hF : gF m F) : xi k ca kk Qp i pc l st m := by
  cases i
  case iconst n =>
    exact hk _ _ _ _ _ _ _ h hI hM hL ⟨aG_I ⟨Int.le_refl _, Int.le_refl _⟩, hS⟩ hF
  case bipush n =>
    exact hk _ _ _ _ _ _ _ h hI hM hL ⟨aG_I ⟨Int.le_refl _, Int.le_refl _⟩, hS⟩ hF
  case sipush n =>
    exact hk _ _ _ _ _ _ _ h hI hM hL ⟨aG_I ⟨Int.le_refl _, Int.le_refl _⟩, hS⟩ hF
  case lconst n =>
    exact hk _ _ _ _ _ _ _ h hI hM hL ⟨aG_L ⟨Int.le_refl _, Int.le_refl _⟩, hS⟩ hF
  case iload_n n =>
    simp only [ai, aiP] at h
    split at h
    · rename_i v e1
      simp only [Bool.and_eq_true, beqN] at h
      obtain ⟨x, e2, h2⟩ := hL _ _ e1
      obtain ⟨z, e3, h3, h4⟩ := aH_int h2 h.1
      subst e3
      simp only [xi]
      rw [e2]
      exact hk _ _ _ _ _ _ _ h.2 hI hM hL ⟨⟨aH_I rfl h3 h4, fun y hy => (by cases hy; exact ⟨fun _ => e2, fun z => (by cases z), fun z => (by cases z)⟩), fun w hw => (by cases hw)⟩, hS⟩ hF
    · cases h
  case iload n =>
    simp only [ai, aiP] at h
    split at h
    · rename_i v e1
      simp only [Bool.and_eq_true, beqN] at h
      obtain ⟨x, e2, h2⟩ := hL _ _ e1
      obtain ⟨z, e3, h3, h4⟩ := aH_int h2 h.1
      subst e3
      simp only [xi]
      rw [e2]
      exact hk _ _ _ _ _ _ _ h.2 hI hM hL ⟨⟨aH_I rfl h3 h4, fun y hy => (by cases hy; exact ⟨fun _ => e2, fun z => (by cases z), fun z => (by cases z)⟩), fun w hw => (by cases hw)⟩, hS⟩ hF
    · cases h
  case lload_n n =>
    simp only [ai, aiP] at h
    split at h
    · rename_i v e1
      simp only [Bool.and_eq_true, bleN] at h
      obtain ⟨x, e2, h2⟩ := hL _ _ e1
      obtain ⟨z, e3, h3, h4⟩ := aH_long h2 h.1
      have hk9 : v.1 = 2 ∨ v.1 = 3 := by rcases h2 with ⟨c, _⟩ | ⟨c, _⟩ | ⟨c, _⟩ <;> omega
      subst e3
      simp only [xi]
      rw [e2]
      exact hk _ _ _ _ _ _ _ h.2 hI hM hL ⟨⟨Or.inr (Or.inr ⟨hk9, z, rfl, h3, h4⟩), fun y hy => (by cases hy), fun w hw => (by cases hw; exact ⟨fun z => (by cases z), fun _ => e2⟩)⟩, hS⟩ hF
    · cases h
  case lload n =>
    simp only [ai, aiP] at h
    split at h
    · rename_i v e1
      simp only [Bool.and_eq_true, bleN] at h
      obtain ⟨x, e2, h2⟩ := hL _ _ e1
      obtain ⟨z, e3, h3, h4⟩ := aH_long h2 h.1
      have hk9 : v.1 = 2 ∨ v.1 = 3 := by rcases h2 with ⟨c, _⟩ | ⟨c, _⟩ | ⟨c, _⟩ <;> omega
      subst e3
      simp only [xi]
      rw [e2]
      exact hk _ _ _ _ _ _ _ h.2 hI hM hL ⟨⟨Or.inr (Or.inr ⟨hk9, z, rfl, h3, h4⟩), fun y hy => (by cases hy), fun w hw => (by cases hw; exact ⟨fun z => (by cases z), fun _ => e2⟩)⟩, hS⟩ hF
    · cases h
  case aload_n n =>
    simp only [ai, aiP] at h
    split at h
    · rename_i v e1
      simp only [Bool.and_eq_true, beqN] at h
      obtain ⟨x, e2, h2⟩ := hL _ _ e1
      obtain ⟨b, e3, h3⟩ := aH_ref h2 h.1
      subst e3
      simp only [xi]
      rw [e2]
      exact hk _ _ _ _ _ _ _ h.2 hI hM hL ⟨aG_R h3, hS⟩ hF
    · cases h
  case aload n =>
    simp only [ai, aiP] at h
    split at h
    · rename_i v e1
      simp only [Bool.and_eq_true, beqN] at h
      obtain ⟨x, e2, h2⟩ := hL _ _ e1
      obtain ⟨b, e3, h3⟩ := aH_ref h2 h.1
      subst e3
      simp only [xi]
      rw [e2]
      exact hk _ _ _ _ _ _ _ h.2 hI hM hL ⟨aG_R h3, hS⟩ hF
    · cases h
  case istore_n n =>
    simp only [ai, aiP] at h
    split at h
    · rename_i v R
      simp only [Bool.and_eq_true, beqN, bltN] at h
      obtain ⟨x, r, e1, h1, h2, h3, h4⟩ := gSt_int hS h.1
      subst e1
      exact ⟨h.2.1, hk _ _ _ _ _ _ _ h.2.2 hI hM (gL_st1 hL (aH_I h.1 h1 h2)) (gSt_kil (fun i x h1 h2 h3 => sv1_ne h1 h2 h3) h4) hF⟩
    · cases h
  case istore n =>
    simp only [ai, aiP] at h
    split at h
    · rename_i v R
      simp only [Bool.and_eq_true, beqN, bltN] at h
      obtain ⟨x, r, e1, h1, h2, h3, h4⟩ := gSt_int hS h.1
      subst e1
      exact ⟨h.2.1, hk _ _ _ _ _ _ _ h.2.2 hI hM (gL_st1 hL (aH_I h.1 h1 h2)) (gSt_kil (fun i x h1 h2 h3 => sv1_ne h1 h2 h3) h4) hF⟩
    · cases h
  case astore_n n =>
    simp only [ai, aiP] at h
    split at h
    · rename_i v R
      simp only [Bool.and_eq_true, beqN, bltN] at h
      obtain ⟨x, r, e1, h1, h4⟩ := gSt_ref hS h.1
      subst e1
      exact ⟨h.2.1, hk _ _ _ _ _ _ _ h.2.2 hI hM (gL_st1 hL (aH_R h.1 h1)) (gSt_kil (fun i x h1 h2 h3 => sv1_ne h1 h2 h3) h4) hF⟩
    · cases h
  case astore n =>
    simp only [ai, aiP] at h
    split at h
    · rename_i v R
      simp only [Bool.and_eq_true, beqN, bltN] at h
      obtain ⟨x, r, e1, h1, h4⟩ := gSt_ref hS h.1
      subst e1
      exact ⟨h.2.1, hk _ _ _ _ _ _ _ h.2.2 hI hM (gL_st1 hL (aH_R h.1 h1)) (gSt_kil (fun i x h1 h2 h3 => sv1_ne h1 h2 h3) h4) hF⟩
    · cases h
  case lstore_n n =>
    simp only [ai, aiP] at h
    split at h
    · rename_i v R
      simp only [Bool.and_eq_true, bleN, bltN] at h
      obtain ⟨x, r, e1, h1, h2, h3, h4⟩ := gSt_long hS h.1
      have hk9 : v.1 = 2 ∨ v.1 = 3 := by
        obtain ⟨_, _, _, h9, _⟩ := gSt_c hS
        rcases h9.1 with ⟨c, _⟩ | ⟨c, _⟩ | ⟨c, _⟩ <;> omega
      subst e1
      exact ⟨h.2.1, hk _ _ _ _ _ _ _ h.2.2 hI hM (gL_st2 hL (Or.inr (Or.inr ⟨hk9, x, rfl, h1, h2⟩))) (gSt_kil2 (fun i x h1 h2 h3 h4 => sv2_ne h1 h2 h3 h4) h4) hF⟩
    · cases h
  case lstore n =>
    simp only [ai, aiP] at h
    split at h
    · rename_i v R
      simp only [Bool.and_eq_true, bleN, bltN] at h
      obtain ⟨x, r, e1, h1, h2, h3, h4⟩ := gSt_long hS h.1
      have hk9 : v.1 = 2 ∨ v.1 = 3 := by
        obtain ⟨_, _, _, h9, _⟩ := gSt_c hS
        rcases h9.1 with ⟨c, _⟩ | ⟨c, _⟩ | ⟨c, _⟩ <;> omega
      subst e1
      exact ⟨h.2.1, hk _ _ _ _ _ _ _ h.2.2 hI hM (gL_st2 hL (Or.inr (Or.inr ⟨hk9, x, rfl, h1, h2⟩))) (gSt_kil2 (fun i x h1 h2 h3 h4 => sv2_ne h1 h2 h3 h4) h4) hF⟩
    · cases h
  case iinc n d =>
    simp only [ai, aiP] at h
    split at h
    · rename_i v e1
      simp only [Bool.and_eq_true, beqN, bltN] at h
      obtain ⟨x, e2, h2⟩ := hL _ _ e1
      obtain ⟨z, e3, h3, h4⟩ := aH_int h2 h.1
      subst e3
      simp only [xi]
      rw [e2]
      have h5 := aG_add (s0 := s0) (l := l) (m := m) (ya := aI (Int32.ofInt d).toInt (Int32.ofInt d).toInt) h3 h4 ⟨Int.le_refl _, Int.le_refl _⟩ trivial
      exact ⟨h.2.1, hk _ _ _ _ _ _ _ h.2.2 hI hM (gL_st1 hL h5.1) (gSt_kil (fun i x h1 h2 h3 => sv1_ne h1 h2 h3) hS) hF⟩
    · cases h
  case iadd =>
    simp only [ai, aiP] at h
    split at h
    · rename_i y x R
      simp only [Bool.and_eq_true, beqN] at h
      obtain ⟨hy, hx, h⟩ := h
      obtain ⟨v, r1, e1, a1, a2, a3, a4⟩ := gSt_int hS hy
      obtain ⟨u, r2, e2, b1, b2, b3, b4⟩ := gSt_int a4 hx
      subst e1 e2
      exact hk _ _ _ _ _ _ _ h hI hM hL ⟨aG_add b1 b2 a1 a2, b4⟩ hF
    · cases h
  case isub =>
    simp only [ai, aiP] at h
    split at h
    · rename_i y x R
      simp only [Bool.and_eq_true, beqN] at h
      obtain ⟨hy, hx, h⟩ := h
      obtain ⟨v, r1, e1, a1, a2, a3, a4⟩ := gSt_int hS hy
      obtain ⟨u, r2, e2, b1, b2, b3, b4⟩ := gSt_int a4 hx
      subst e1 e2
      exact hk _ _ _ _ _ _ _ h hI hM hL ⟨aG_sub b1 b2 a1, b4⟩ hF
    · cases h
  case imul =>
    simp only [ai, aiP] at h
    split at h
    · rename_i y x R
      simp only [Bool.and_eq_true, beqN] at h
      obtain ⟨hy, hx, h⟩ := h
      obtain ⟨v, r1, e1, a1, a2, a3, a4⟩ := gSt_int hS hy
      obtain ⟨u, r2, e2, b1, b2, b3, b4⟩ := gSt_int a4 hx
      subst e1 e2
      exact hk _ _ _ _ _ _ _ h hI hM hL ⟨aG_mul b1 a1, b4⟩ hF
    · cases h
  case iand =>
    simp only [ai, aiP] at h
    split at h
    · rename_i y x R
      simp only [Bool.and_eq_true, beqN] at h
      obtain ⟨hy, hx, h⟩ := h
      obtain ⟨v, r1, e1, a1, a2, a3, a4⟩ := gSt_int hS hy
      obtain ⟨u, r2, e2, b1, b2, b3, b4⟩ := gSt_int a4 hx
      subst e1 e2
      exact hk _ _ _ _ _ _ _ h hI hM hL ⟨aG_ex2 (f := fun a b => a &&& b) b1 a1 (aG_and b1 a1), b4⟩ hF
    · cases h
  case ior =>
    simp only [ai, aiP] at h
    split at h
    · rename_i y x R
      simp only [Bool.and_eq_true, beqN] at h
      obtain ⟨hy, hx, h⟩ := h
      obtain ⟨v, r1, e1, a1, a2, a3, a4⟩ := gSt_int hS hy
      obtain ⟨u, r2, e2, b1, b2, b3, b4⟩ := gSt_int a4 hx
      subst e1 e2
      exact hk _ _ _ _ _ _ _ h hI hM hL ⟨aG_ex2 (f := fun a b => a ||| b) b1 a1 (aG_ori b1 a1), b4⟩ hF
    · cases h
  case ixor =>
    simp only [ai, aiP] at h
    split at h
    · rename_i y x R
      simp only [Bool.and_eq_true, beqN] at h
      obtain ⟨hy, hx, h⟩ := h
      obtain ⟨v, r1, e1, a1, a2, a3, a4⟩ := gSt_int hS hy
      obtain ⟨u, r2, e2, b1, b2, b3, b4⟩ := gSt_int a4 hx
      subst e1 e2
      exact hk _ _ _ _ _ _ _ h hI hM hL ⟨aG_ex2 (f := fun a b => a ^^^ b) b1 a1 (aG_or b1 a1 (Or.inr rfl)), b4⟩ hF
    · cases h
  case ishl =>
    simp only [ai, aiP] at h
    split at h
    · rename_i y x R
      simp only [Bool.and_eq_true, beqN] at h
      obtain ⟨hy, hx, h⟩ := h
      obtain ⟨v, r1, e1, a1, a2, a3, a4⟩ := gSt_int hS hy
      obtain ⟨u, r2, e2, b1, b2, b3, b4⟩ := gSt_int a4 hx
      subst e1 e2
      exact hk _ _ _ _ _ _ _ h hI hM hL ⟨aG_shl b1 a1, b4⟩ hF
    · cases h
  case ishr =>
    simp only [ai, aiP] at h
    split at h
    · rename_i y x R
      simp only [Bool.and_eq_true, beqN] at h
      obtain ⟨hy, hx, h⟩ := h
      obtain ⟨v, r1, e1, a1, a2, a3, a4⟩ := gSt_int hS hy
      obtain ⟨u, r2, e2, b1, b2, b3, b4⟩ := gSt_int a4 hx
      subst e1 e2
      exact hk _ _ _ _ _ _ _ h hI hM hL ⟨aG_ex2 (f := fun a b => a >>> (b &&& 31)) b1 a1 (aG_shr b1), b4⟩ hF
    · cases h
  case iushr =>
    simp only [ai, aiP] at h
    split at h
    · rename_i y x R
      simp only [Bool.and_eq_true, beqN] at h
      obtain ⟨hy, hx, h⟩ := h
      obtain ⟨v, r1, e1, a1, a2, a3, a4⟩ := gSt_int hS hy
      obtain ⟨u, r2, e2, b1, b2, b3, b4⟩ := gSt_int a4 hx
      subst e1 e2
      exact hk _ _ _ _ _ _ _ h hI hM hL ⟨aG_It, b4⟩ hF
    · cases h
  case idiv =>
    simp only [ai, aiP] at h
    split at h
    · rename_i y x R
      simp only [Bool.and_eq_true, beqN, Bool.or_eq_true, ile_iff] at h
      obtain ⟨hy, hx, hz, h⟩ := h
      obtain ⟨v, r1, e1, a1, a2, a3, a4⟩ := gSt_int hS hy
      obtain ⟨u, r2, e2, b1, b2, b3, b4⟩ := gSt_int a4 hx
      subst e1 e2
      exact ⟨fun z => (by rw [z, i32_0] at a1; omega), hk _ _ _ _ _ _ _ h hI hM hL ⟨aG_div b1 a1, b4⟩ hF⟩
    · cases h
  case ladd =>
    simp only [ai, aiP] at h
    split at h
    · rename_i y x R
      simp only [Bool.and_eq_true, bleN] at h
      obtain ⟨hy, hx, h⟩ := h
      obtain ⟨v, r1, e1, a1, a2, a3, a4⟩ := gSt_long hS hy
      obtain ⟨u, r2, e2, b1, b2, b3, b4⟩ := gSt_long a4 hx
      subst e1 e2
      exact hk _ _ _ _ _ _ _ h hI hM hL ⟨aG_rL (fun c1 c2 => by rw [addl_ok (by omega)]; omega), b4⟩ hF
    · cases h
  case lsub =>
    simp only [ai, aiP] at h
    split at h
    · rename_i y x R
      simp only [Bool.and_eq_true, bleN] at h
      obtain ⟨hy, hx, h⟩ := h
      obtain ⟨v, r1, e1, a1, a2, a3, a4⟩ := gSt_long hS hy
      obtain ⟨u, r2, e2, b1, b2, b3, b4⟩ := gSt_long a4 hx
      subst e1 e2
      exact hk _ _ _ _ _ _ _ h hI hM hL ⟨aG_rL (fun c1 c2 => by rw [subl_ok (by omega)]; omega), b4⟩ hF
    · cases h
  case lmul =>
    simp only [ai, aiP] at h
    split at h
    · rename_i y x R
      simp only [Bool.and_eq_true, bleN] at h
      obtain ⟨hy, hx, h⟩ := h
      obtain ⟨v, r1, e1, a1, a2, a3, a4⟩ := gSt_long hS hy
      obtain ⟨u, r2, e2, b1, b2, b3, b4⟩ := gSt_long a4 hx
      subst e1 e2
      have g := mulB_ok b1 a1
      exact hk _ _ _ _ _ _ _ h hI hM hL ⟨aG_rL (fun c1 c2 => by rw [mull_ok ⟨Int.le_trans c1 g.1, Int.le_trans g.2 c2⟩]; exact g), b4⟩ hF
    · cases h
  case ldiv =>
    simp only [ai, aiP] at h
    split at h
    · rename_i y x R
      simp only [Bool.and_eq_true, bleN, Bool.or_eq_true, beqN, ile_iff] at h
      obtain ⟨hy, hx, hz, h⟩ := h
      obtain ⟨v, r1, e1, a1, a2, a3, a4⟩ := gSt_long hS hy
      obtain ⟨u, r2, e2, b1, b2, b3, b4⟩ := gSt_long a4 hx
      subst e1 e2
      refine ⟨fun z => ?_, hk _ _ _ _ _ _ _ h hI hM hL ⟨aG_ldiv b1 a1, b4⟩ hF⟩
      rcases hz with hz | hz
      · exact a2 hz z
      · rw [z, i64_0] at a1
        omega
    · cases h
  case lrem =>
    simp only [ai, aiP] at h
    split at h
    · rename_i y x R
      simp only [Bool.and_eq_true, bleN, ile_iff] at h
      obtain ⟨hy, hx, hz, h⟩ := h
      obtain ⟨v, r1, e1, a1, a2, a3, a4⟩ := gSt_long hS hy
      obtain ⟨u, r2, e2, b1, b2, b3, b4⟩ := gSt_long a4 hx
      subst e1 e2
      exact ⟨fun z => (by rw [z, i64_0] at a1; omega), hk _ _ _ _ _ _ _ h hI hM hL ⟨aG_lrem b1 a1 hz, b4⟩ hF⟩
    · cases h
  case lushr =>
    simp only [ai, aiP] at h
    split at h
    · rename_i y x R
      simp only [Bool.and_eq_true, bleN, beqN] at h
      obtain ⟨hy, hx, h⟩ := h
      obtain ⟨v, r1, e1, a1, a2, a3, a4⟩ := gSt_int hS hy
      obtain ⟨u, r2, e2, b1, b2, b3, b4⟩ := gSt_long a4 hx
      subst e1 e2
      exact hk _ _ _ _ _ _ _ h hI hM hL ⟨aG_lushr (xa := x) a1, b4⟩ hF
    · cases h
  case lcmp =>
    simp only [ai, aiP] at h
    split at h
    · rename_i y x R
      simp only [Bool.and_eq_true, bleN] at h
      obtain ⟨hy, hx, h⟩ := h
      obtain ⟨v, r1, e1, a1, a2, a3, a4⟩ := gSt_long hS hy
      obtain ⟨u, r2, e2, b1, b2, b3, b4⟩ := gSt_long a4 hx
      subst e1 e2
      refine hk _ _ _ _ _ _ _ h hI hM hL ⟨⟨aH_I rfl (cmp_rng u v) trivial, fun z hz => ?_, fun w hw => (by cases hw)⟩, b4⟩ hF
      cases hz
      cases e9 : (Nat.beq x.2.2.2.2.1.1 2 && (ile 0 y.2.2.1 && ile y.2.2.2.1 0)) with
      | false => exact ⟨fun z => (by cases z), fun z => (by cases z), fun z => (by cases z)⟩
      | true =>
        simp only [Bool.and_eq_true, beqN, ile_iff] at e9
        have hv : v = 0 := Int64.toInt_inj.mp (by rw [i64_0]; omega)
        refine ⟨fun z => (by cases z), fun z => (by cases z), fun _ => ⟨u, b3.2 e9.1, ?_⟩⟩
        rw [hv]
    · cases h
  case ineg =>
    simp only [ai, aiP] at h
    split at h
    · rename_i x R
      simp only [Bool.and_eq_true, beqN] at h
      obtain ⟨u, r2, e2, b1, b2, b3, b4⟩ := gSt_int hS h.1
      subst e2
      exact hk _ _ _ _ _ _ _ h.2 hI hM hL ⟨aG_rI (fun c1 c2 => by rw [neg_ok (by omega)]; omega), b4⟩ hF
    · cases h
  case i2l =>
    simp only [ai, aiP] at h
    split at h
    · rename_i x R
      simp only [Bool.and_eq_true, beqN] at h
      obtain ⟨u, r2, e2, b1, b2, b3, b4⟩ := gSt_int hS h.1
      subst e2
      refine hk _ _ _ _ _ _ _ h.2 hI hM hL ⟨⟨aH_L rfl (by rw [Int32.toInt_toInt64]; exact b1), fun z hz => (by cases hz), fun w hw => ?_⟩, b4⟩ hF
      cases hw
      cases e9 : Nat.beq x.2.2.2.2.1.1 1 with
      | false => exact ⟨fun z => (by cases z), fun z => (by cases z)⟩
      | true => exact ⟨fun _ => ⟨u, b3.1 (beqN.mp e9), rfl⟩, fun z => (by cases z)⟩
    · cases h
  case i2b =>
    simp only [ai, aiP] at h
    split at h
    · rename_i x R
      simp only [Bool.and_eq_true, beqN] at h
      obtain ⟨u, r2, e2, b1, b2, b3, b4⟩ := gSt_int hS h.1
      subst e2
      exact hk _ _ _ _ _ _ _ h.2 hI hM hL ⟨aG_I (i8_rng _), b4⟩ hF
    · cases h
  case l2i =>
    simp only [ai, aiP] at h
    split at h
    · rename_i x R
      simp only [Bool.and_eq_true, bleN] at h
      obtain ⟨u, r2, e2, b1, b2, b3, b4⟩ := gSt_long hS h.1
      subst e2
      refine hk _ _ _ _ _ _ _ h.2 hI hM hL ⟨?_, b4⟩ hF
      cases e9 : inI x.2.2.1 x.2.2.2.1 with
      | false => exact aG_It
      | true =>
        obtain ⟨c1, c2⟩ := inI_of e9
        refine aG_I ?_
        rw [Int64.toInt_toInt32, bm32 (by omega)]
        exact b1
    · cases h
  case dup =>
    simp only [ai, aiP] at h
    split at h
    · rename_i v R
      simp only [Bool.and_eq_true, bleN] at h
      obtain ⟨x, r, e1, h1, h2⟩ := gSt_c hS
      subst e1
      exact ⟨cat1 h1 h.1, hk _ _ _ _ _ _ _ h.2 hI hM hL ⟨h1, h1, h2⟩ hF⟩
    · cases h
  case pop =>
    simp only [ai, aiP] at h
    split at h
    · rename_i v R
      simp only [Bool.and_eq_true, bleN] at h
      obtain ⟨x, r, e1, h1, h2⟩ := gSt_c hS
      subst e1
      exact ⟨cat1 h1 h.1, hk _ _ _ _ _ _ _ h.2 hI hM hL h2 hF⟩
    · cases h
  case dup2 =>
    simp only [ai, aiP] at h
    split at h
    · rename_i v w R
      simp only [Bool.and_eq_true, bleN] at h
      obtain ⟨x, r, e1, h1, h2⟩ := gSt_c hS
      obtain ⟨y, r2, e2, h3, h4⟩ := gSt_c h2
      subst e1 e2
      exact ⟨cat1 h1 h.1, cat1 h3 h.2.1, hk _ _ _ _ _ _ _ h.2.2 hI hM hL ⟨h1, h3, h1, h3, h4⟩ hF⟩
    · cases h
  case goto o =>
    exact hk _ _ _ _ _ _ _ h hI hM hL hS hF
  case ifCond cc o =>
    simp only [ai, aiP] at h
    split at h
    · rename_i x R
      simp only [Bool.and_eq_true, beqN] at h
      obtain ⟨hx, h⟩ := h
      obtain ⟨u, r2, e2, b1, b2, b3, b4⟩ := gSt_int hS hx
      have hu := i32_rng u
      subst e2
      cases cc with
      | eq =>
        simp only [Bool.and_eq_true] at h
        exact ⟨fun c => by
          have c1 : u.toInt = 0 := by rw [c]; exact i32_0
          obtain ⟨L9, F9, h9, hL9, hF9⟩ := br1_ok hI h.1 hL hF b3 b1 (by omega)
          exact hk _ _ _ _ _ _ _ h9 hI hM hL9 b4 hF9, fun c => by
          have c1 : u.toInt ≠ 0 := fun z => c (Int32.toInt_inj.mp (by rw [z]; exact i32_0.symm))
          by_cases c2 : 1 ≤ u.toInt
          · obtain ⟨L9, F9, h9, hL9, hF9⟩ := br1_ok hI h.2.1 (gL_nzS hL b3 c) hF b3 b1 (by omega)
            exact hk _ _ _ _ _ _ _ h9 hI hM hL9 b4 hF9
          · obtain ⟨L9, F9, h9, hL9, hF9⟩ := br1_ok hI h.2.2 (gL_nzS hL b3 c) hF b3 b1 (by omega)
            exact hk _ _ _ _ _ _ _ h9 hI hM hL9 b4 hF9⟩
      | ne =>
        simp only [Bool.and_eq_true] at h
        exact ⟨fun c => by
          have c1 : u.toInt ≠ 0 := fun z => c (Int32.toInt_inj.mp (by rw [z]; exact i32_0.symm))
          by_cases c2 : 1 ≤ u.toInt
          · obtain ⟨L9, F9, h9, hL9, hF9⟩ := br1_ok hI h.2.1 (gL_nzS hL b3 c) hF b3 b1 (by omega)
            exact hk _ _ _ _ _ _ _ h9 hI hM hL9 b4 hF9
          · obtain ⟨L9, F9, h9, hL9, hF9⟩ := br1_ok hI h.2.2 (gL_nzS hL b3 c) hF b3 b1 (by omega)
            exact hk _ _ _ _ _ _ _ h9 hI hM hL9 b4 hF9, fun c => by
          have c1 : u.toInt = 0 := by rw [c]; exact i32_0
          obtain ⟨L9, F9, h9, hL9, hF9⟩ := br1_ok hI h.1 hL hF b3 b1 (by omega)
          exact hk _ _ _ _ _ _ _ h9 hI hM hL9 b4 hF9⟩
      | lt =>
        simp only [Bool.and_eq_true] at h
        exact ⟨fun c => by
          rw [Int32.lt_iff_toInt_lt] at c
          rw [i32_0] at c
          obtain ⟨L9, F9, h9, hL9, hF9⟩ := br1_ok hI h.1 hL hF b3 b1 (by omega)
          exact hk _ _ _ _ _ _ _ h9 hI hM hL9 b4 hF9, fun c => by
          rw [Int32.lt_iff_toInt_lt] at c
          rw [i32_0] at c
          obtain ⟨L9, F9, h9, hL9, hF9⟩ := br1_ok hI h.2 hL hF b3 b1 (by omega)
          exact hk _ _ _ _ _ _ _ h9 hI hM hL9 b4 hF9⟩
      | ge =>
        simp only [Bool.and_eq_true] at h
        exact ⟨fun c => by
          rw [Int32.le_iff_toInt_le] at c
          rw [i32_0] at c
          obtain ⟨L9, F9, h9, hL9, hF9⟩ := br1_ok hI h.1 hL hF b3 b1 (by omega)
          exact hk _ _ _ _ _ _ _ h9 hI hM hL9 b4 hF9, fun c => by
          rw [Int32.le_iff_toInt_le] at c
          rw [i32_0] at c
          obtain ⟨L9, F9, h9, hL9, hF9⟩ := br1_ok hI h.2 hL hF b3 b1 (by omega)
          exact hk _ _ _ _ _ _ _ h9 hI hM hL9 b4 hF9⟩
      | gt =>
        simp only [Bool.and_eq_true] at h
        exact ⟨fun c => by
          rw [Int32.lt_iff_toInt_lt] at c
          rw [i32_0] at c
          obtain ⟨L9, F9, h9, hL9, hF9⟩ := br1_ok hI h.1 hL hF b3 b1 (by omega)
          exact hk _ _ _ _ _ _ _ h9 hI hM hL9 b4 hF9, fun c => by
          rw [Int32.lt_iff_toInt_lt] at c
          rw [i32_0] at c
          obtain ⟨L9, F9, h9, hL9, hF9⟩ := br1_ok hI h.2 hL hF b3 b1 (by omega)
          exact hk _ _ _ _ _ _ _ h9 hI hM hL9 b4 hF9⟩
      | le =>
        simp only [Bool.and_eq_true] at h
        exact ⟨fun c => by
          rw [Int32.le_iff_toInt_le] at c
          rw [i32_0] at c
          obtain ⟨L9, F9, h9, hL9, hF9⟩ := br1_ok hI h.1 hL hF b3 b1 (by omega)
          exact hk _ _ _ _ _ _ _ h9 hI hM hL9 b4 hF9, fun c => by
          rw [Int32.le_iff_toInt_le] at c
          rw [i32_0] at c
          obtain ⟨L9, F9, h9, hL9, hF9⟩ := br1_ok hI h.2 hL hF b3 b1 (by omega)
          exact hk _ _ _ _ _ _ _ h9 hI hM hL9 b4 hF9⟩
    · cases h
  case if_icmp cc o =>
    simp only [ai, aiP] at h
    split at h
    · rename_i y x R
      simp only [Bool.and_eq_true, beqN] at h
      obtain ⟨hy, hx, h⟩ := h
      obtain ⟨v, r1, e1, a1, a2, a3, a4⟩ := gSt_int hS hy
      obtain ⟨u, r2, e2, b1, b2, b3, b4⟩ := gSt_int a4 hx
      have hu := i32_rng u
      have hv := i32_rng v
      subst e1 e2
      cases cc with
      | eq =>
        simp only [Bool.and_eq_true] at h
        exact ⟨fun c => by
          subst c
          obtain ⟨L9, F9, h9, hL9, hF9⟩ := br2_ok hI h.1 hL hF b3 b1 (by omega) a3 a1 (by omega)
          exact hk _ _ _ _ _ _ _ h9 hI hM hL9 b4 hF9, fun c => by
          have c1 : u.toInt ≠ v.toInt := fun z => c (Int32.toInt_inj.mp z)
          by_cases c2 : u.toInt < v.toInt
          · obtain ⟨L9, F9, h9, hL9, hF9⟩ := br2_ok hI h.2.1 hL hF b3 b1 (by omega) a3 a1 (by omega)
            exact hk _ _ _ _ _ _ _ h9 hI hM hL9 b4 hF9
          · obtain ⟨L9, F9, h9, hL9, hF9⟩ := br2_ok hI h.2.2 hL hF b3 b1 (by omega) a3 a1 (by omega)
            exact hk _ _ _ _ _ _ _ h9 hI hM hL9 b4 hF9⟩
      | ne =>
        simp only [Bool.and_eq_true] at h
        exact ⟨fun c => by
          have c1 : u.toInt ≠ v.toInt := fun z => c (Int32.toInt_inj.mp z)
          by_cases c2 : u.toInt < v.toInt
          · obtain ⟨L9, F9, h9, hL9, hF9⟩ := br2_ok hI h.2.1 hL hF b3 b1 (by omega) a3 a1 (by omega)
            exact hk _ _ _ _ _ _ _ h9 hI hM hL9 b4 hF9
          · obtain ⟨L9, F9, h9, hL9, hF9⟩ := br2_ok hI h.2.2 hL hF b3 b1 (by omega) a3 a1 (by omega)
            exact hk _ _ _ _ _ _ _ h9 hI hM hL9 b4 hF9, fun c => by
          subst c
          obtain ⟨L9, F9, h9, hL9, hF9⟩ := br2_ok hI h.1 hL hF b3 b1 (by omega) a3 a1 (by omega)
          exact hk _ _ _ _ _ _ _ h9 hI hM hL9 b4 hF9⟩
      | lt =>
        simp only [Bool.and_eq_true] at h
        exact ⟨fun c => by
          rw [Int32.lt_iff_toInt_lt] at c
          obtain ⟨L9, F9, h9, hL9, hF9⟩ := br2_ok hI h.1 hL hF b3 b1 (by omega) a3 a1 (by omega)
          exact hk _ _ _ _ _ _ _ h9 hI hM hL9 b4 hF9, fun c => by
          rw [Int32.lt_iff_toInt_lt] at c
          obtain ⟨L9, F9, h9, hL9, hF9⟩ := br2_ok hI h.2 hL hF b3 b1 (by omega) a3 a1 (by omega)
          exact hk _ _ _ _ _ _ _ h9 hI hM hL9 b4 hF9⟩
      | ge =>
        simp only [Bool.and_eq_true] at h
        exact ⟨fun c => by
          rw [Int32.le_iff_toInt_le] at c
          obtain ⟨L9, F9, h9, hL9, hF9⟩ := br2_ok hI h.2 hL hF b3 b1 (by omega) a3 a1 (by omega)
          exact hk _ _ _ _ _ _ _ h9 hI hM hL9 b4 hF9, fun c => by
          rw [Int32.le_iff_toInt_le] at c
          obtain ⟨L9, F9, h9, hL9, hF9⟩ := br2_ok hI h.1 hL hF b3 b1 (by omega) a3 a1 (by omega)
          exact hk _ _ _ _ _ _ _ h9 hI hM hL9 b4 hF9⟩
      | gt =>
        simp only [Bool.and_eq_true] at h
        exact ⟨fun c => by
          rw [Int32.lt_iff_toInt_lt] at c
          obtain ⟨L9, F9, h9, hL9, hF9⟩ := br2_ok hI h.1 hL hF b3 b1 (by omega) a3 a1 (by omega)
          exact hk _ _ _ _ _ _ _ h9 hI hM hL9 b4 hF9, fun c => by
          rw [Int32.lt_iff_toInt_lt] at c
          obtain ⟨L9, F9, h9, hL9, hF9⟩ := br2_ok hI h.2 hL hF b3 b1 (by omega) a3 a1 (by omega)
          exact hk _ _ _ _ _ _ _ h9 hI hM hL9 b4 hF9⟩
      | le =>
        simp only [Bool.and_eq_true] at h
        exact ⟨fun c => by
          rw [Int32.le_iff_toInt_le] at c
          obtain ⟨L9, F9, h9, hL9, hF9⟩ := br2_ok hI h.2 hL hF b3 b1 (by omega) a3 a1 (by omega)
          exact hk _ _ _ _ _ _ _ h9 hI hM hL9 b4 hF9, fun c => by
          rw [Int32.le_iff_toInt_le] at c
          obtain ⟨L9, F9, h9, hL9, hF9⟩ := br2_ok hI h.1 hL hF b3 b1 (by omega) a3 a1 (by omega)
          exact hk _ _ _ _ _ _ _ h9 hI hM hL9 b4 hF9⟩
    · cases h
  case ifnull o =>
    simp only [ai, aiP] at h
    split at h
    · rename_i x R
      simp only [Bool.and_eq_true, beqN] at h
      obtain ⟨b, r2, e2, b1, b4⟩ := gSt_ref hS h.1
      subst e2
      exact hk _ _ _ _ _ _ _ h.2 hI hM hL b4 hF
    · cases h
  case ifnonnull o =>
    simp only [ai, aiP] at h
    split at h
    · rename_i x R
      simp only [Bool.and_eq_true, beqN] at h
      obtain ⟨b, r2, e2, b1, b4⟩ := gSt_ref hS h.1
      subst e2
      exact hk _ _ _ _ _ _ _ h.2 hI hM hL b4 hF
    · cases h
  case tableswitch d lo hi os =>
    simp only [ai, aiP] at h
    split at h
    · rename_i x R
      simp only [Bool.and_eq_true, beqN, decide_eq_true_eq] at h
      obtain ⟨hx, h1, h2, h3, h4⟩ := h
      obtain ⟨u, r2, e2, b1, b2, b3, b4⟩ := gSt_int hS hx
      have hu := i32_rng u
      subst e2
      refine ⟨fun c => ?_, fun c1 c2 => ?_⟩
      · by_cases c3 : u.toInt < lo
        · obtain ⟨L9, F9, h9, hL9, hF9⟩ := br1_ok hI h1 hL hF b3 b1 (by omega)
          exact hk _ _ _ _ _ _ _ h9 hI hM hL9 b4 hF9
        · obtain ⟨L9, F9, h9, hL9, hF9⟩ := br1_ok hI h2 hL hF b3 b1 (by omega)
          exact hk _ _ _ _ _ _ _ h9 hI hM hL9 b4 hF9
      · obtain ⟨o, e9, L9, F9, h9, hL9, hF9⟩ := swA_ok hI hL hF b3 b1 h4 (u.toInt - lo).toNat (by omega) (by omega)
        exact ⟨o, by rw [← e9, Array.getElem?_toList], hk _ _ _ _ _ _ _ h9 hI hM hL9 b4 hF9⟩
    · cases h
  case lookupswitch d ps =>
    simp only [ai, aiP] at h
    split at h
    · rename_i x R
      simp only [Bool.and_eq_true, beqN] at h
      obtain ⟨hx, h1, h2⟩ := h
      obtain ⟨u, r2, e2, b1, b2, b3, b4⟩ := gSt_int hS hx
      subst e2
      obtain ⟨L9, F9, h9, hL9, hF9⟩ := lswA_ok hI h1 hL hF b3 b1 h2
      exact hk _ _ _ _ _ _ _ h9 hI hM hL9 b4 hF9
    · cases h
  case ldc n =>
    simp only [ai, aiP] at h
    simp only [xi]
    split at h
    · rename_i v e1
      rw [e1]
      exact hk _ _ _ _ _ _ _ h hI hM hL ⟨aG_I ⟨Int.le_refl _, Int.le_refl _⟩, hS⟩ hF
    · rename_i a e1
      rw [e1]
      exact hk _ _ _ _ _ _ _ h hI hM hL ⟨aG_R (List.mem_singleton.mpr rfl), hS⟩ hF
    · cases h
  case ldc_w n =>
    simp only [ai, aiP] at h
    simp only [xi]
    split at h
    · rename_i v e1
      rw [e1]
      exact hk _ _ _ _ _ _ _ h hI hM hL ⟨aG_I ⟨Int.le_refl _, Int.le_refl _⟩, hS⟩ hF
    · cases h
  case ldc2_w n =>
    simp only [ai, aiP] at h
    simp only [xi]
    split at h
    · rename_i v e1
      rw [e1]
      exact hk _ _ _ _ _ _ _ h hI hM hL ⟨aG_L ⟨Int.le_refl _, Int.le_refl _⟩, hS⟩ hF
    · cases h
  case getstatic n =>
    simp only [ai, aiP] at h
    simp only [xi]
    split at h
    · rename_i a e1
      rw [e1]
      exact hk _ _ _ _ _ _ _ h hI hM hL ⟨aG_R (List.mem_singleton.mpr rfl), hS⟩ hF
    · cases h
  case getfield n =>
    simp only [ai, aiP] at h
    split at h
    · rename_i x R
      simp only [Bool.and_eq_true, beqN] at h
      obtain ⟨hx, h⟩ := h
      obtain ⟨b, r2, e2, b1, b4⟩ := gSt_ref hS hx
      subst e2
      simp only [xi]
      split at h
      · rename_i ci f e1
        rw [e1]
        simp only [Bool.and_eq_true] at h
        obtain ⟨h1, h⟩ := h
        refine ⟨of_decide_eq_true (List.all_eq_true.mp h1 b b1), ?_⟩
        unfold fvl
        split at h
        · rename_i e9
          rw [e9]
          exact hk _ _ _ _ _ _ _ h hI hM hL ⟨rdA_ok hI hF b1 (Nat.le_refl _) (Nat.le_refl _), b4⟩ hF
        · rename_i e9
          rw [e9]
          exact hk _ _ _ _ _ _ _ h hI hM hL ⟨rdA_ok hI hF b1 (Nat.le_refl _) (Nat.le_refl _), b4⟩ hF
        · rename_i e9
          rw [e9]
          exact hk _ _ _ _ _ _ _ h hI hM hL ⟨aG_Lt, b4⟩ hF
        · rename_i e9
          rw [e9]
          split at h
          · rename_i cs e8
            obtain ⟨d, e7, h7⟩ := rfC_ok hI e8 b b1 f (Nat.le_refl _) (by omega)
            rw [e7]
            exact hk _ _ _ _ _ _ _ h hI hM hL ⟨aG_R h7, b4⟩ hF
          · cases h
        · cases h
      · cases h
    · cases h
  case putfield n =>
    simp only [ai, aiP] at h
    simp only [xi]
    split at h
    · rename_i ci f e1
      rw [e1]
      simp only [Bool.and_eq_true, Bool.not_eq_true'] at h
      obtain ⟨hfn, h⟩ := h
      refine ⟨hfn, ?_⟩
      split at h
      · rename_i v x R
        simp only [Bool.and_eq_true, beqN] at h
        obtain ⟨hx, hla, h⟩ := h
        split at h
        · rename_i e9
          rw [e9]
          simp only [Bool.and_eq_true, beqN] at h
          obtain ⟨hv, hall, h⟩ := h
          · obtain ⟨u, r1, e3, a1, a2, a3, a4⟩ := gSt_int hS hv
            obtain ⟨b, r2, e2, b1, b4⟩ := gSt_ref a4 hx
            subst e3 e2
            have hw : ∀ c d, ¬ (c = b ∧ d = f) → (mI m b f u).1 c d = m.1 c d := fun c d hcd => u2_off hcd
            have hx9 : (mI m b f u).1 b f = u := u2_on
            have hg := List.all_eq_true.mp hall b b1
            simp only [Bool.and_eq_true] at hg
            have hW : gW m (mI m b f u) x.2.1 f f := fun c d hcd => hw c d (fun z => hcd ⟨by rw [z.1]; exact b1, by omega, by omega⟩)
            have hW1 : gW m (mI m b f u) [b] f f := fun c d hcd => hw c d (fun z => hcd ⟨by rw [z.1]; exact List.mem_singleton.mpr rfl, by omega, by omega⟩)
            exact ⟨of_decide_eq_true (List.all_eq_true.mp hla b b1), hk _ _ _ _ _ _ _ h (gI_w hI rfl hw (by rw [hx9]; exact gck_ok (Nat.le_refl _) (Nat.le_refl _) a1 hg.2)) (gM_w hM hW1 (fun c hc => by obtain rfl := List.mem_singleton.mp hc; exact hg.1)) hL (gSt_kilM hW b4) (gF_wr hF hw b1 (Nat.le_refl _) (Nat.le_refl _) (by rw [hx9]; exact a1))⟩
        · rename_i e9
          rw [e9]
          simp only [Bool.and_eq_true, beqN, ile_iff] at h
          obtain ⟨hv, hbo, hall, h⟩ := h
          · obtain ⟨u, r1, e3, a1, a2, a3, a4⟩ := gSt_int hS hv
            obtain ⟨b, r2, e2, b1, b4⟩ := gSt_ref a4 hx
            subst e3 e2
            have hw : ∀ c d, ¬ (c = b ∧ d = f) → (mI m b f u).1 c d = m.1 c d := fun c d hcd => u2_off hcd
            have hx9 : (mI m b f u).1 b f = u := u2_on
            have hg := List.all_eq_true.mp hall b b1
            simp only [Bool.and_eq_true] at hg
            have hW : gW m (mI m b f u) x.2.1 f f := fun c d hcd => hw c d (fun z => hcd ⟨by rw [z.1]; exact b1, by omega, by omega⟩)
            have hW1 : gW m (mI m b f u) [b] f f := fun c d hcd => hw c d (fun z => hcd ⟨by rw [z.1]; exact List.mem_singleton.mpr rfl, by omega, by omega⟩)
            exact ⟨bool_of (by omega), of_decide_eq_true (List.all_eq_true.mp hla b b1), hk _ _ _ _ _ _ _ h (gI_w hI rfl hw (by rw [hx9]; exact gck_ok (Nat.le_refl _) (Nat.le_refl _) a1 hg.2)) (gM_w hM hW1 (fun c hc => by obtain rfl := List.mem_singleton.mp hc; exact hg.1)) hL (gSt_kilM hW b4) (gF_wr hF hw b1 (Nat.le_refl _) (Nat.le_refl _) (by rw [hx9]; exact a1))⟩
        · rename_i e9
          rw [e9]
          simp only [Bool.and_eq_true, bleN] at h
          obtain ⟨u, r1, e3, a1, a2, a3, a4⟩ := gSt_long hS h.1
          obtain ⟨b, r2, e2, b1, b4⟩ := gSt_ref a4 hx
          subst e3 e2
          exact ⟨of_decide_eq_true (List.all_eq_true.mp hla b b1), hk _ _ _ _ _ _ _ h.2 hI hM hL (gSt_m1 (m := m) (m' := mJ m b f u) rfl b4) hF⟩
        · cases h
      · cases h
    · cases h
  case arraylength =>
    simp only [ai, aiP] at h
    split at h
    · rename_i x R
      simp only [Bool.and_eq_true, beqN] at h
      obtain ⟨hx, h⟩ := h
      obtain ⟨b, r2, e2, b1, b4⟩ := gSt_ref hS hx
      subst e2
      simp only [xi, pI, pR, pL]
      split at h
      · rename_i a t e1
        simp only [Bool.and_eq_true, bltN] at h
        obtain ⟨h1, h2, h3⟩ := h
        have h4 := List.all_eq_true.mp h1 b (by rw [← e1]; exact b1)
        simp only [Bool.and_eq_true, Bool.or_eq_true, beqN] at h4
        have hz : (Int32.ofNat (lay b).2.2).toInt = Int.ofNat (lay a).2.2 := by rw [h4.2]; exact nI_toInt (by omega)
        have g : kk (pc + 1) l (.int (Int32.ofNat (lay b).2.2) :: r2) m := hk _ _ _ _ _ _ _ h3 hI hM hL ⟨aG_I (by rw [hz]; exact ⟨Int.le_refl _, Int.le_refl _⟩), b4⟩ hF
        generalize lay b = y at h4 g ⊢
        obtain ⟨y1, y2, y3⟩ := y
        rcases h4.1 with c | c
        · have c : y1 = 0 := c
          subst c
          exact g
        · have c : y1 = 4 := c
          subst c
          exact g
      · rename_i e1
        rw [e1] at b1
        cases b1
    · cases h
  case iaload =>
    simp only [ai, aiP] at h
    split at h
    · rename_i j x R
      simp only [Bool.and_eq_true, beqN] at h
      obtain ⟨hj, hx, h⟩ := h
      obtain ⟨v, r1, e1, a1, a2, a3, a4⟩ := gSt_int hS hj
      obtain ⟨b, r2, e2, b1, b4⟩ := gSt_ref a4 hx
      subst e1 e2
      simp only [xi, pI, pR, pL]
      split at h
      · rename_i e9
        rw [e9] at b1
        cases b1
      · rename_i a t e9
        cases e8 : Nat.beq (lay a).1 0 with
        | true =>
          rw [e8] at h
          obtain ⟨h1, h2⟩ := Bool.and_eq_true_iff.mp h
          have h4 := List.all_eq_true.mp h1 b (by rw [← e9]; exact b1)
          simp only [Bool.and_eq_true, decide_eq_true_eq] at h4
          obtain ⟨⟨h5, h6⟩, h7⟩ := h4
          obtain ⟨g1, g2, g3⟩ := ix_ok h7 a1
          have g : vp_in v (lay b).2.2 ∧ kk (pc + 1) l (.int (m.1 b v.toNatClampNeg) :: r2) m := ⟨g1, hk _ _ _ _ _ _ _ h2 hI hM hL ⟨by rw [← e9]; exact rdA_ok hI hF b1 g2 g3, b4⟩ hF⟩
          generalize lay b = y at h5 h6 g ⊢
          obtain ⟨y1, y2, y3⟩ := y
          have h5 : y1 = 0 := h5
          have h6 : y2 = 0 := h6
          subst h5 h6
          exact g
        | false =>
          rw [e8] at h
          have h : (Nat.beq t.length 0 && (decide ((lay a).1 = 4 ∧ (lay a).2.1 = 0) && (ix j (lay a).2.2 && kA (pc + 1) L (aI (cmn a j.2.2.1.toNat (j.2.2.2.1.toNat + 1 - j.2.2.1.toNat)).1 (cmn a j.2.2.1.toNat (j.2.2.2.1.toNat + 1 - j.2.2.1.toNat)).2 :: R) F))) = true := h
          simp only [Bool.and_eq_true, beqN, decide_eq_true_eq] at h
          obtain ⟨h1, ⟨h5, h6⟩, h7, h2⟩ := h
          have ht : t = [] := List.eq_nil_of_length_eq_zero h1
          rw [ht] at e9
          rw [e9] at b1
          obtain rfl := List.mem_singleton.mp b1
          obtain ⟨g1, g2, g3⟩ := ix_ok h7 a1
          have g : vp_in v (lay b).2.2 ∧ kk (pc + 1) l (.int (cst b v.toNatClampNeg) :: r2) m := ⟨g1, hk _ _ _ _ _ _ _ h2 hI hM hL ⟨aG_I (cmn_ok g2 (by omega)), b4⟩ hF⟩
          clear h7 h2 g1
          generalize lay b = y at h5 h6 g ⊢
          obtain ⟨y1, y2, y3⟩ := y
          have h5 : y1 = 4 := h5
          have h6 : y2 = 0 := h6
          subst h5 h6
          exact g
    · cases h
  case baload =>
    simp only [ai, aiP] at h
    split at h
    · rename_i j x R
      simp only [Bool.and_eq_true, beqN] at h
      obtain ⟨hj, hx, h⟩ := h
      obtain ⟨v, r1, e1, a1, a2, a3, a4⟩ := gSt_int hS hj
      obtain ⟨b, r2, e2, b1, b4⟩ := gSt_ref a4 hx
      subst e1 e2
      simp only [xi, pI, pR, pL]
      obtain ⟨h1, h2⟩ := h
      have h4 := List.all_eq_true.mp h1 b b1
      simp only [Bool.and_eq_true, decide_eq_true_eq] at h4
      obtain ⟨⟨h5, h6⟩, h7⟩ := h4
      obtain ⟨g1, g2, g3⟩ := ix_ok h7 a1
      have g : vp_in v (lay b).2.2 ∧ kk (pc + 1) l (.int (m.1 b v.toNatClampNeg) :: r2) m := ⟨g1, hk _ _ _ _ _ _ _ h2 hI hM hL ⟨rdA_ok hI hF b1 g2 g3, b4⟩ hF⟩
      clear h7 g1
      generalize lay b = y at h5 h6 g ⊢
      obtain ⟨y1, y2, y3⟩ := y
      have h5 : y1 = 0 := h5
      subst h5
      rcases h6 with h6 | h6
      · have h6 : y2 = 1 := h6
        subst h6
        exact g
      · have h6 : y2 = 2 := h6
        subst h6
        exact g
    · cases h
  case caload =>
    simp only [ai, aiP] at h
    split at h
    · rename_i j x R
      simp only [Bool.and_eq_true, beqN] at h
      obtain ⟨hj, hx, h⟩ := h
      obtain ⟨v, r1, e1, a1, a2, a3, a4⟩ := gSt_int hS hj
      obtain ⟨b, r2, e2, b1, b4⟩ := gSt_ref a4 hx
      subst e1 e2
      simp only [xi, pI, pR, pL]
      split at h
      · rename_i a e9
        simp only [Bool.and_eq_true, decide_eq_true_eq] at h
        obtain ⟨⟨h5, h6⟩, h7, h2⟩ := h
        rw [e9] at b1
        obtain rfl := List.mem_singleton.mp b1
        obtain ⟨g1, g2, g3⟩ := ix_ok h7 a1
        have g : vp_in v (lay b).2.2 ∧ kk (pc + 1) l (.int (cst b v.toNatClampNeg) :: r2) m := ⟨g1, hk _ _ _ _ _ _ _ h2 hI hM hL ⟨aG_I (cmn_ok g2 (by omega)), b4⟩ hF⟩
        clear h7 h2 g1
        generalize lay b = y at h5 h6 g ⊢
        obtain ⟨y1, y2, y3⟩ := y
        have h5 : y1 = 4 := h5
        have h6 : y2 = 3 := h6
        subst h5 h6
        exact g
      · cases h
    · cases h
  case laload =>
    simp only [ai, aiP] at h
    split at h
    · rename_i j x R
      simp only [Bool.and_eq_true, beqN] at h
      obtain ⟨hj, hx, h⟩ := h
      obtain ⟨v, r1, e1, a1, a2, a3, a4⟩ := gSt_int hS hj
      obtain ⟨b, r2, e2, b1, b4⟩ := gSt_ref a4 hx
      subst e1 e2
      simp only [xi, pI, pR, pL]
      obtain ⟨h1, h2⟩ := h
      have h4 := List.all_eq_true.mp h1 b b1
      simp only [Bool.and_eq_true, decide_eq_true_eq] at h4
      obtain ⟨h5, h7⟩ := h4
      obtain ⟨g1, g2, g3⟩ := ix_ok h7 a1
      have g : vp_in v (lay b).2.2 ∧ kk (pc + 1) l (.long (m.2.1 b v.toNatClampNeg) :: r2) m := ⟨g1, hk _ _ _ _ _ _ _ h2 hI hM hL ⟨aG_Lt, b4⟩ hF⟩
      clear h7 g1
      generalize lay b = y at h5 g ⊢
      obtain ⟨y1, y2, y3⟩ := y
      have h5 : y1 = 1 := h5
      subst h5
      exact g
    · cases h
  case aaload =>
    simp only [ai, aiP] at h
    split at h
    · rename_i j x R
      simp only [Bool.and_eq_true, beqN] at h
      obtain ⟨hj, hx, h⟩ := h
      obtain ⟨v, r1, e1, a1, a2, a3, a4⟩ := gSt_int hS hj
      obtain ⟨b, r2, e2, b1, b4⟩ := gSt_ref a4 hx
      subst e1 e2
      simp only [xi, pI, pR, pL]
      obtain ⟨h1, h2⟩ := h
      have h4 := List.all_eq_true.mp h1 b b1
      simp only [Bool.and_eq_true, decide_eq_true_eq] at h4
      obtain ⟨h5, h7⟩ := h4
      obtain ⟨g1, g2, g3⟩ := ix_ok h7 a1
      split at h2
      · rename_i cs e8
        obtain ⟨d, e7, h8⟩ := rfC_ok hI e8 b b1 v.toNatClampNeg g2 (by omega)
        have g : vp_in v (lay b).2.2 ∧ kk (pc + 1) l (rvl (m.2.2 b v.toNatClampNeg) :: r2) m := ⟨g1, by rw [e7]; exact hk _ _ _ _ _ _ _ h2 hI hM hL ⟨aG_R h8, b4⟩ hF⟩
        clear h7 g1
        generalize lay b = y at h5 g ⊢
        obtain ⟨y1, y2, y3⟩ := y
        have h5 : y1 = 2 := h5
        subst h5
        exact g
      · cases h2
    · cases h
  case iastore =>
    simp only [ai, aiP] at h
    split at h
    · rename_i w j x R
      simp only [Bool.and_eq_true, beqN] at h
      obtain ⟨hv, hj, hx, hall, h⟩ := h
      obtain ⟨u, r0, e0, c1, c2, c3, c4⟩ := gSt_int hS hv
      obtain ⟨v, r1, e1, a1, a2, a3, a4⟩ := gSt_int c4 hj
      obtain ⟨b, r2, e2, b1, b4⟩ := gSt_ref a4 hx
      subst e0 e1 e2
      simp only [xi, pI, pR, pL]
      have hg := List.all_eq_true.mp hall b b1
      simp only [Bool.and_eq_true, decide_eq_true_eq] at hg
      obtain ⟨⟨h5, h6⟩, h7, h8, h9⟩ := hg
      obtain ⟨g1, g2, g3⟩ := ix_ok h7 a1
      have hw : ∀ c d, ¬ (c = b ∧ d = v.toNatClampNeg) → (mI m b v.toNatClampNeg u).1 c d = m.1 c d := fun c d hcd => u2_off hcd
      have hx9 : (mI m b v.toNatClampNeg u).1 b v.toNatClampNeg = u := u2_on
      have hW : gW m (mI m b v.toNatClampNeg u) x.2.1 j.2.2.1.toNat j.2.2.2.1.toNat := fun c d hcd => hw c d (fun z => hcd ⟨by rw [z.1]; exact b1, by omega, by omega⟩)
      have hW1 : gW m (mI m b v.toNatClampNeg u) [b] j.2.2.1.toNat j.2.2.2.1.toNat := fun c d hcd => hw c d (fun z => hcd ⟨by rw [z.1]; exact List.mem_singleton.mpr rfl, by omega, by omega⟩)
      have g : vp_in v (lay b).2.2 ∧ kk (pc + 1) l r2 (mI m b v.toNatClampNeg u) := ⟨g1, hk _ _ _ _ _ _ _ h (gI_w hI rfl hw (by rw [hx9]; exact gck_ok g2 g3 c1 h9)) (gM_w hM hW1 (fun c hc => by obtain rfl := List.mem_singleton.mp hc; exact h8)) hL (gSt_kilM hW b4) (gF_wr hF hw b1 g2 g3 (by rw [hx9]; exact c1))⟩
      clear h7 g1
      generalize lay b = y at h5 h6 g ⊢
      obtain ⟨y1, y2, y3⟩ := y
      have h5 : y1 = 0 := h5
      have h6 : y2 = 0 := h6
      subst h5 h6
      exact g
    · cases h
  case bastore =>
    simp only [ai, aiP] at h
    split at h
    · rename_i w j x R
      simp only [Bool.and_eq_true, beqN] at h
      obtain ⟨hv, hj, hx, hall, h⟩ := h
      obtain ⟨u, r0, e0, c1, c2, c3, c4⟩ := gSt_int hS hv
      obtain ⟨v, r1, e1, a1, a2, a3, a4⟩ := gSt_int c4 hj
      obtain ⟨b, r2, e2, b1, b4⟩ := gSt_ref a4 hx
      subst e0 e1 e2
      simp only [xi, pI, pR, pL]
      have hg := List.all_eq_true.mp hall b b1
      simp only [Bool.and_eq_true, decide_eq_true_eq, Bool.or_eq_true, ile_iff] at hg
      obtain ⟨h56, h7, h8, h9⟩ := hg
      obtain ⟨g1, g2, g3⟩ := ix_ok h7 a1
      have hw : ∀ c d, ¬ (c = b ∧ d = v.toNatClampNeg) → (mI m b v.toNatClampNeg u).1 c d = m.1 c d := fun c d hcd => u2_off hcd
      have hx9 : (mI m b v.toNatClampNeg u).1 b v.toNatClampNeg = u := u2_on
      have hW : gW m (mI m b v.toNatClampNeg u) x.2.1 j.2.2.1.toNat j.2.2.2.1.toNat := fun c d hcd => hw c d (fun z => hcd ⟨by rw [z.1]; exact b1, by omega, by omega⟩)
      have hW1 : gW m (mI m b v.toNatClampNeg u) [b] j.2.2.1.toNat j.2.2.2.1.toNat := fun c d hcd => hw c d (fun z => hcd ⟨by rw [z.1]; exact List.mem_singleton.mpr rfl, by omega, by omega⟩)
      have g : vp_in v (lay b).2.2 ∧ kk (pc + 1) l r2 (mI m b v.toNatClampNeg u) := ⟨g1, hk _ _ _ _ _ _ _ h (gI_w hI rfl hw (by rw [hx9]; exact gck_ok g2 g3 c1 h9)) (gM_w hM hW1 (fun c hc => by obtain rfl := List.mem_singleton.mp hc; exact h8)) hL (gSt_kilM hW b4) (gF_wr hF hw b1 g2 g3 (by rw [hx9]; exact c1))⟩
      clear h7 g1 hall
      rcases h56 with ⟨⟨h5, h6⟩, h10⟩ | ⟨⟨h5, h6⟩, h10⟩
      · have hnar : vp_nar .boolean u = u := by rcases bool_of (x := u) (by omega) with z | z <;> rw [z] <;> rfl
        generalize lay b = y at h5 h6 g ⊢
        obtain ⟨y1, y2, y3⟩ := y
        have h5 : y1 = 0 := h5
        have h6 : y2 = 2 := h6
        subst h5 h6
        show vp_in v y3 ∧ kk (pc + 1) l r2 (mI m b v.toNatClampNeg (vp_nar .boolean u))
        rw [hnar]
        exact g
      · have hnar : vp_nar .byte u = u := nar8 (by omega)
        generalize lay b = y at h5 h6 g ⊢
        obtain ⟨y1, y2, y3⟩ := y
        have h5 : y1 = 0 := h5
        have h6 : y2 = 1 := h6
        subst h5 h6
        show vp_in v y3 ∧ kk (pc + 1) l r2 (mI m b v.toNatClampNeg (vp_nar .byte u))
        rw [hnar]
        exact g
    · cases h
  case lastore =>
    simp only [ai, aiP] at h
    split at h
    · rename_i w j x R
      simp only [Bool.and_eq_true, beqN, bleN] at h
      obtain ⟨hv, hj, hx, hall, h⟩ := h
      obtain ⟨u, r0, e0, c1, c2, c3, c4⟩ := gSt_long hS hv
      obtain ⟨v, r1, e1, a1, a2, a3, a4⟩ := gSt_int c4 hj
      obtain ⟨b, r2, e2, b1, b4⟩ := gSt_ref a4 hx
      subst e0 e1 e2
      simp only [xi, pI, pR, pL]
      have hg := List.all_eq_true.mp hall b b1
      simp only [Bool.and_eq_true, decide_eq_true_eq] at hg
      obtain ⟨h5, h7⟩ := hg
      obtain ⟨g1, g2, g3⟩ := ix_ok h7 a1
      have g : vp_in v (lay b).2.2 ∧ kk (pc + 1) l r2 (mJ m b v.toNatClampNeg u) := ⟨g1, hk _ _ _ _ _ _ _ h hI hM hL (gSt_m1 (m := m) (m' := mJ m b v.toNatClampNeg u) rfl b4) hF⟩
      clear h7 g1
      generalize lay b = y at h5 g ⊢
      obtain ⟨y1, y2, y3⟩ := y
      have h5 : y1 = 1 := h5
      subst h5
      exact g
    · cases h
  case invokevirtual n =>
    simp only [ai, aiP] at h
    simp only [xi]
    split at h
    · rename_i j e1
      rw [e1]
      split at h
      · rename_i as x R e2
        obtain ⟨vs, r, e3, h1, h2⟩ := popA_ok e2 hS
        simp only [Bool.and_eq_true, beqN, bleN] at h
        obtain ⟨hx, h5, h6, h7, h8, h9⟩ := h
        obtain ⟨y, r2, e4, h3, h4⟩ := gSt_c h2
        obtain ⟨b, e5, h10⟩ := aH_ref h3.1 hx
        subst e4 e5
        simp only [e3]
        refine ⟨of_decide_eq_true (List.all_eq_true.mp h5 b h10), by rw [aCats_ok h4]; exact h6, h7, h8, ?_⟩
        refine hc j (x :: as) _ F h9 l m (.ref b :: vs) hI hM hF ⟨h3, h1⟩ _ ?_
        rintro rv u ⟨rvA, fL, fS, fF, g1, g2, g3, g4, g5, g6, g7⟩
        exact hk _ _ _ _ _ _ _ g1 g2 g3 (g5 L hL) (rv_app g7 (g6 _ _ h4)) g4
      · cases h
    · rename_i j e1
      rw [e1]
      split at h
      · rename_i as x R e2
        obtain ⟨vs, r, e3, h1, h2⟩ := popA_ok e2 hS
        simp only [Bool.and_eq_true, beqN, bleN] at h
        obtain ⟨hx, h5, h6, h9⟩ := h
        obtain ⟨y, r2, e4, h3, h4⟩ := gSt_c h2
        obtain ⟨b, e5, h10⟩ := aH_ref h3.1 hx
        subst e4 e5
        simp only [e3]
        refine ⟨of_decide_eq_true (List.all_eq_true.mp h5 b h10), by rw [aCats_ok h4]; exact h6, ?_⟩
        refine hc j (x :: as) _ F h9 l m (.ref b :: vs) hI hM hF ⟨h3, h1⟩ _ ?_
        rintro rv u ⟨rvA, fL, fS, fF, g1, g2, g3, g4, g5, g6, g7⟩
        exact hk _ _ _ _ _ _ _ g1 g2 g3 (g5 L hL) (rv_app g7 (g6 _ _ h4)) g4
      · cases h
    · cases h
  case invokestatic n =>
    simp only [ai, aiP] at h
    simp only [xi]
    split at h
    · rename_i j e1
      rw [e1]
      split at h
      · rename_i as R e2
        obtain ⟨vs, r, e3, h1, h2⟩ := popA_ok e2 hS
        simp only [Bool.and_eq_true, beqN, bleN] at h
        obtain ⟨h6, h7, h8, h9⟩ := h
        simp only [e3]
        refine ⟨by rw [aCats_ok h2]; exact h6, h7, h8, ?_⟩
        refine hc j as _ F h9 l m vs hI hM hF h1 _ ?_
        rintro rv u ⟨rvA, fL, fS, fF, g1, g2, g3, g4, g5, g6, g7⟩
        exact hk _ _ _ _ _ _ _ g1 g2 g3 (g5 L hL) (rv_app g7 (g6 _ _ h2)) g4
      · cases h
    · rename_i j e1
      rw [e1]
      split at h
      · rename_i na dpa ba spa aa R
        simp only [Bool.and_eq_true, beqN, bleN] at h
        obtain ⟨hn, hdp, hb, hsp, ha, hc6, h⟩ := h
        obtain ⟨n9, r0, e0, n1, n2, n3, n4⟩ := gSt_int hS hn
        obtain ⟨dp, r1, e2, d1, d2, d3, d4⟩ := gSt_int n4 hdp
        obtain ⟨b, r2, e3, b1, b4⟩ := gSt_ref d4 hb
        obtain ⟨sp, r3, e4, p1, p2, p3, p4⟩ := gSt_int b4 hsp
        obtain ⟨a, r4, e5, a1, a4⟩ := gSt_ref p4 ha
        subst e0 e2 e3 e4 e5
        split at h
        · rename_i d9 s9 f1 f2
          obtain ⟨f3, f4⟩ := cst1_of f1
          obtain ⟨f5, f6⟩ := cst1_of f2
          simp only [Bool.and_eq_true, ile_iff] at h
          obtain ⟨h1, h2, h3, h4, h5⟩ := h
          have q1 := List.all_eq_true.mp h4 b b1
          simp only [Bool.and_eq_true, decide_eq_true_eq, bleN] at q1
          obtain ⟨⟨q2, q3⟩, q4, q5, q6⟩ := q1
          have q7 := List.all_eq_true.mp q6 a a1
          simp only [Bool.and_eq_true, decide_eq_true_eq, bleN] at q7
          obtain ⟨q8, q9, q10⟩ := q7
          have en : n9.toNatClampNeg = n9.toInt.toNat := rfl
          have ed : dp.toNatClampNeg = d9.toNat := by show dp.toInt.toNat = _; congr 1; omega
          have es : sp.toNatClampNeg = s9.toNat := by show sp.toInt.toNat = _; congr 1; omega
          have k1 : ¬ sp < 0 := fun z => by rw [Int32.lt_iff_toInt_lt, i32_0] at z; omega
          have k2 : ¬ dp < 0 := fun z => by rw [Int32.lt_iff_toInt_lt, i32_0] at z; omega
          have k3 : ¬ n9 < 0 := fun z => by rw [Int32.lt_iff_toInt_lt, i32_0] at z; omega
          have kn : n9.toNatClampNeg ≤ na.2.2.2.1.toNat := by omega
          have fin : ∀ f9 : Nat → Int32, (∀ i, i < n9.toNatClampNeg → (gseg (d9.toNat + i) (tS b)).1 ≤ (f9 (s9.toNat + i)).toInt ∧ (f9 (s9.toNat + i)).toInt ≤ (gseg (d9.toNat + i) (tS b)).2) → kk (pc + 3) l r4 (mC m b (va_cpy f9 (m.1 b) sp.toNatClampNeg dp.toNatClampNeg n9.toNatClampNeg)) := by
            intro f9 hf9
            rw [es, ed]
            have hW1 : gW m (mC m b (va_cpy f9 (m.1 b) s9.toNat d9.toNat n9.toNatClampNeg)) [b] d9.toNat (d9.toNat + na.2.2.2.1.toNat - 1) := by
              intro c i hci
              show (if c = b then va_cpy f9 (m.1 b) s9.toNat d9.toNat n9.toNatClampNeg else m.1 c) i = m.1 c i
              by_cases e : c = b
              · subst e
                rw [if_pos rfl]
                refine pk_cpy_out ?_
                have : ¬ (d9.toNat ≤ i ∧ i ≤ d9.toNat + na.2.2.2.1.toNat - 1) := fun z => hci ⟨List.mem_singleton.mpr rfl, z.1, z.2⟩
                omega
              · rw [if_neg e]
            have hW : gW m (mC m b (va_cpy f9 (m.1 b) s9.toNat d9.toNat n9.toNatClampNeg)) ba.2.1 d9.toNat (d9.toNat + na.2.2.2.1.toNat - 1) := fun c i hci => hW1 c i (fun z => hci ⟨by rw [List.mem_singleton.mp z.1]; exact b1, z.2⟩)
            have hI9 : gI tS tR (mC m b (va_cpy f9 (m.1 b) s9.toNat d9.toNat n9.toNatClampNeg)) := by
              refine ⟨fun c i => ?_, hI.2⟩
              show (gseg i (tS c)).1 ≤ ((if c = b then va_cpy f9 (m.1 b) s9.toNat d9.toNat n9.toNatClampNeg else m.1 c) i).toInt ∧ ((if c = b then va_cpy f9 (m.1 b) s9.toNat d9.toNat n9.toNatClampNeg else m.1 c) i).toInt ≤ (gseg i (tS c)).2
              by_cases e : c = b
              · subst e
                rw [if_pos rfl]
                by_cases z : d9.toNat ≤ i ∧ i < d9.toNat + n9.toNatClampNeg
                · rw [pk_cpy_in z.1 z.2]
                  have := hf9 (i - d9.toNat) (by omega)
                  rwa [show d9.toNat + (i - d9.toNat) = i by omega] at this
                · rw [pk_cpy_out (by omega)]
                  exact hI.1 c i
              · rw [if_neg e]
                exact hI.1 c i
            exact hk _ _ _ _ _ _ _ h5 hI9 (gM_w hM hW1 (fun c hc => by obtain rfl := List.mem_singleton.mp hc; exact q5)) hL (gSt_kilM hW a4) (gF_fil hF hW)
          simp only [pI, pR]
          refine ⟨by rw [aCats_ok a4]; exact hc6, k1, k2, k3, ?_⟩
          have c1 : dp.toNatClampNeg + n9.toNatClampNeg ≤ (lay b).2.2 := by omega
          have c2 : sp.toNatClampNeg + n9.toNatClampNeg ≤ (lay a).2.2 := by omega
          cases e9 : Nat.beq (lay a).1 0 with
          | true =>
            rw [e9] at q10
            have g := fin (m.1 a) (fun i hi => cpC_ok hI q10 i (by omega))
            have e8 := beqN.mp e9
            clear fin hS hk hc q6 h4 q9 q4
            generalize lay b = y at q2 q3 c1 ⊢
            obtain ⟨y1, y2, y3⟩ := y
            have q2 : y1 = 0 := q2
            have q3 : y2 = 0 := q3
            subst q2 q3
            refine ⟨c1, ?_⟩
            generalize lay a = y at q8 c2 e8 ⊢
            obtain ⟨z1, z2, z3⟩ := y
            have e8 : z1 = 0 := e8
            have q8 : z2 = 0 := q8
            subst e8 q8
            exact ⟨c2, g⟩
          | false =>
            rw [e9] at q10
            have q10 : (Nat.beq (lay a).1 4 && cpK tS a b s9.toNat d9.toNat na.2.2.2.1.toNat) = true := q10
            simp only [Bool.and_eq_true, beqN] at q10
            have g := fin (cst a) (fun i hi => cpK_ok q10.2 i (by omega))
            have e8 := q10.1
            clear fin hS hk hc q6 h4 q9 q4 q10 e9
            generalize lay b = y at q2 q3 c1 ⊢
            obtain ⟨y1, y2, y3⟩ := y
            have q2 : y1 = 0 := q2
            have q3 : y2 = 0 := q3
            subst q2 q3
            refine ⟨c1, ?_⟩
            generalize lay a = y at q8 c2 e8 ⊢
            obtain ⟨z1, z2, z3⟩ := y
            have e8 : z1 = 4 := e8
            have q8 : z2 = 0 := q8
            subst e8 q8
            exact ⟨c2, g⟩
        · cases h
      · cases h
    · cases h
  case ireturn =>
    simp only [ai, aiP] at h
    split at h
    · rename_i v
      simp only [Bool.and_eq_true, Bool.or_eq_true, beqN, ile_iff] at h
      obtain ⟨hv, h1, h2⟩ := h
      obtain ⟨u, r0, e0, c1, c2, c3, c4⟩ := gSt_int hS hv
      have e1 := gSt_n c4
      subst e0 e1
      refine ⟨rfl, ?_, hr (some v) L F l m _ h2 hI hM hL hF ⟨_, rfl, hS.1⟩⟩
      rcases h1 with h1 | h1
      · exact Or.inl h1
      · exact Or.inr ⟨h1.1, bool_of (by omega)⟩
    · cases h
  case lreturn =>
    simp only [ai, aiP] at h
    split at h
    · rename_i v
      simp only [Bool.and_eq_true, beqN, bleN] at h
      obtain ⟨hv, h1, h2⟩ := h
      obtain ⟨u, r0, e0, c1, c2, c3, c4⟩ := gSt_long hS hv
      have e1 := gSt_n c4
      subst e0 e1
      exact ⟨rfl, h1, hr (some v) L F l m _ h2 hI hM hL hF ⟨_, rfl, hS.1⟩⟩
    · cases h
  case return_ =>
    simp only [ai, aiP] at h
    split at h
    · simp only [Bool.and_eq_true, beqN] at h
      have e1 := gSt_n hS
      subst e1
      exact ⟨rfl, h.1, hr none L F l m _ h.2 hI hM hL hF rfl⟩
    · cases h
  all_goals (cases h; done)
end AIOK
