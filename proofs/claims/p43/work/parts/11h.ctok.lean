/-! L2: what a contract's check says -/
def aMt : List Value → List aV → Prop
  | [], [] => True
  | x :: vs, a :: as => aH (fun _ => 0) x a ∧ aMt vs as
  | _, _ => False
def argB : List Value → List (Int × Int) → Prop
  | x :: vs, r :: rs => ((∀ z, x = .int z → r.1 ≤ z.toInt ∧ z.toInt ≤ r.2) ∧ ∀ w, x = .long w → r.1 ≤ w.toInt ∧ w.toInt ≤ r.2) ∧ argB vs rs
  | _, _ => True
def rvM (rv : Option Value) : Option aV → Prop
  | none => rv = none
  | some a => ∃ x, rv = some x ∧ aH (fun _ => 0) x (aCl a)
def cPo (tS : Nat → List (Nat × Int × Int)) (tR : Nat → Nat → Option Nat) (c : aCt) (m : xM) (vs : List Value) (rv : Option Value) (m' : xM) : Prop := gI tS tR m' ∧ (∀ a i, wm1 c.2.2.2.2 a i = false → m'.1 a i = m.1 a i) ∧ ∃ o ∈ c.2.2.2.1, rvM rv o.1 ∧ argB vs o.2.1 ∧ gF m' o.2.2
/-- a contract holds, at every depth from D on -/
def vC (tS : Nat → List (Nat × Int × Int)) (tR : Nat → Nat → Option Nat) (J : xM → Prop) (D : Nat) (c : aCt) : Prop := ∀ d, D ≤ d → ∀ m vs (P : Option Value → xM → Prop), gI tS tR m → J m → aMt vs c.2.1 → gF m c.2.2.1 → (∀ rv m', cPo tS tR c m vs rv m' → P rv m') → xw d c.1 vs m P
theorem aH_s {s0 s1 : Nat → Int} {x : Value} {a : aV} (h : aH s0 x a) (ht : a.2.2.2.2.2 = none) : aH s1 x a := by
  rcases h with h | ⟨h1, z, h2, h3, h4⟩ | h
  · exact Or.inl h
  · exact Or.inr (Or.inl ⟨h1, z, h2, h3, by rw [ht]; trivial⟩)
  · exact Or.inr (Or.inr h)
theorem none_of {α : Type} {o : Option α} (h : o.isNone = true) : o = none := by
  cases o
  · rfl
  · cases h
theorem aLe_ok {s0 s1 : Nat → Int} {x : Value} {v w : aV} (h : aH s0 x v) (hl : aLe v w = true) : aH s1 x w := by
  unfold aLe at hl
  simp only [Bool.and_eq_true] at hl
  obtain ⟨h0, hl⟩ := hl
  have ht := none_of h0
  cases e0 : Nat.beq w.1 0 with
  | true =>
    rw [e0] at hl
    simp only [cond_true, Bool.and_eq_true, beqN] at hl
    obtain ⟨b, e1, h1⟩ := aH_ref h hl.1
    have h2 := List.all_eq_true.mp hl.2 b h1
    obtain ⟨d, h3, h4⟩ := List.any_eq_true.mp h2
    have h4 := beqN.mp h4
    subst h4
    exact Or.inl ⟨beqN.mp e0, d, e1, h3⟩
  | false =>
    rw [e0] at hl
    cases e1 : Nat.beq w.1 1 with
    | true =>
      rw [e1] at hl
      simp only [cond_true, cond_false, Bool.and_eq_true, beqN, ile_iff] at hl
      obtain ⟨z, e2, h1, h2⟩ := aH_int h hl.1
      exact Or.inr (Or.inl ⟨beqN.mp e1, z, e2, by omega, by rw [ht]; trivial⟩)
    | false =>
      rw [e1] at hl
      cases e2 : Nat.beq w.1 2 with
      | true =>
        rw [e2] at hl
        simp only [cond_true, cond_false, Bool.and_eq_true, Bool.or_eq_true, beqN, ile_iff] at hl
        obtain ⟨z, e3, h1, h2⟩ := aH_long h (by omega)
        exact Or.inr (Or.inr ⟨Or.inl (beqN.mp e2), z, e3, by omega, fun c => by rw [beqN.mp e2] at c; omega⟩)
      | false =>
        rw [e2] at hl
        simp only [cond_false, Bool.and_eq_true, beqN, ile_iff] at hl
        obtain ⟨z, e3, h1, h2⟩ := aH_long h (by omega)
        exact Or.inr (Or.inr ⟨Or.inr hl.1, z, e3, by omega, fun _ => h2 hl.2.1⟩)
theorem aLes_ok {s0 : Nat → Int} {l : List (Nat × Value)} {m : xM} : ∀ {vs : List Value} {as ws : List aV}, gSt s0 l m vs as → aLes as ws = true → aMt vs ws
  | [], [], [], _, _ => trivial
  | x :: vs, a :: as, w :: ws, h, hl => by
    unfold aLes at hl
    simp only [Bool.and_eq_true] at hl
    exact ⟨aLe_ok h.1.1 hl.1, aLes_ok h.2 hl.2⟩
  | [], [], _ :: _, _, hl => by cases hl
  | _ :: _, _ :: _, [], _, hl => by cases hl
  | [], _ :: _, _, h, _ => h.elim
  | _ :: _, [], _, h, _ => h.elim
section CTOK
variable {tS : Nat → List (Nat × Int × Int)} {tR : Nat → Nat → Option Nat}
theorem fLe_ok {m : xM} {F : aFs} (hI : gI tS tR m) (hF : gF m F) : ∀ {G : aFs}, fLe tS F G = true → gF m G
  | [], _ => fun a i r h => by cases h
  | (b, j, lo, hi) :: t, h => by
    have h : ((ile lo (rd1 tS F b j).1 && ile (rd1 tS F b j).2 hi) && fLe tS F t) = true := h
    simp only [Bool.and_eq_true, ile_iff] at h
    intro a i r hr
    by_cases z : a = b ∧ i = j
    · obtain ⟨rfl, rfl⟩ := z
      rw [fct_h] at hr
      cases hr
      have := rd1_ok hI hF a i
      show lo ≤ _ ∧ _ ≤ hi
      omega
    · rw [fct_t z] at hr
      exact fLe_ok hI hF h.2 a i r hr
theorem fct_app {a i : Nat} {r : Int × Int} {G : aFs} : ∀ {F : aFs}, fct a i F = some r → fct a i (F ++ G) = some r
  | [], h => by cases h
  | (b, j, lo, hi) :: t, h => by
    show fct a i ((b, j, lo, hi) :: (t ++ G)) = some r
    by_cases z : a = b ∧ i = j
    · obtain ⟨rfl, rfl⟩ := z
      rw [fct_h] at h ⊢
      exact h
    · rw [fct_t z] at h ⊢
      exact fct_app h
theorem fct_app0 {a i : Nat} {G : aFs} : ∀ {F : aFs}, fct a i F = none → fct a i (F ++ G) = fct a i G
  | [], h => rfl
  | (b, j, lo, hi) :: t, h => by
    show fct a i ((b, j, lo, hi) :: (t ++ G)) = _
    by_cases z : a = b ∧ i = j
    · obtain ⟨rfl, rfl⟩ := z
      rw [fct_h] at h
      cases h
    · rw [fct_t z] at h ⊢
      exact fct_app0 h
theorem gF_app {m : xM} : ∀ {F G : aFs}, gF m F → gF m G → gF m (F ++ G)
  | [], G, _, h => h
  | (b, j, lo, hi) :: t, G, hF, hG => by
    intro a i r hr
    have hr : fct a i ((b, j, lo, hi) :: (t ++ G)) = some r := hr
    by_cases z : a = b ∧ i = j
    · obtain ⟨rfl, rfl⟩ := z
      exact hF a i r (by rw [fct_h] at hr ⊢; exact hr)
    · rw [fct_t z] at hr
      -- the tail of F
      by_cases hz : ∃ r', fct a i t = some r'
      · obtain ⟨r', hr'⟩ := hz
        have h1 : fct a i (t ++ G) = some r' := fct_app hr'
        rw [h1] at hr
        cases hr
        exact hF a i r (by rw [fct_t z]; exact hr')
      · have h1 : fct a i (t ++ G) = fct a i G := fct_app0 (by
          cases e : fct a i t with
          | none => rfl
          | some r' => exact absurd ⟨r', e⟩ hz)
        rw [h1] at hr
        exact hG a i r hr
theorem wm1_c {q : Nat × Nat × Nat} {t : List (Nat × Nat × Nat)} {a i : Nat} : wm1 (q :: t) a i = false ↔ ¬ (q.1 = a ∧ q.2.1 ≤ i ∧ i < q.2.2) ∧ wm1 t a i = false := by
  unfold wm1
  rw [List.any_cons, Bool.or_eq_false_iff]
  constructor
  · rintro ⟨h1, h2⟩
    refine ⟨fun z => ?_, h2⟩
    rw [beqN.mpr z.1, bleN.mpr z.2.1, bltN.mpr z.2.2] at h1
    cases h1
  · rintro ⟨h1, h2⟩
    refine ⟨?_, h2⟩
    cases e : (Nat.beq q.1 a && (Nat.ble q.2.1 i && Nat.blt i q.2.2)) with
    | false => rfl
    | true =>
      simp only [Bool.and_eq_true, beqN, bleN, bltN] at e
      exact absurd e h1
theorem fMs_ok {a i : Nat} {r : Int × Int} {F : aFs} : ∀ {Q : List (Nat × Nat × Nat)}, fct a i (fMs Q F) = some r → fct a i F = some r ∧ wm1 Q a i = false
  | [], h => ⟨h, rfl⟩
  | q :: t, h => by
    have h : fct a i (filM [q.1] q.2.1 (q.2.2 - 1) (fMs t F)) = some r := h
    simp only [filM, qfl_eq, qan_eq] at h
    obtain ⟨h1, h2⟩ := fct_f (p := fun a i => !(([q.1] : List Nat).any (fun c => Nat.beq a c && (Nat.ble q.2.1 i && Nat.ble i (q.2.2 - 1))))) h
    obtain ⟨h3, h4⟩ := fMs_ok h1
    refine ⟨h3, wm1_c.mpr ⟨fun z => ?_, h4⟩⟩
    simp only [List.any_cons, List.any_nil, Bool.or_false, Bool.not_eq_true', Bool.and_eq_false_iff, beqF] at h2
    rcases h2 with h2 | h2 | h2
    · exact h2 z.1.symm
    · rw [bleN.mpr z.2.1] at h2; cases h2
    · rw [bleN.mpr (show i ≤ q.2.2 - 1 by have := z.2.2; omega)] at h2; cases h2
/-- the state of the stack, with what its sources may not be -/
def gS2 (s0 : Nat → Int) (l : List (Nat × Value)) (m : xM) (Q : List (Nat × Nat × Nat)) : List Value → List aV → Prop
  | [], [] => True
  | x :: st, a :: S => (aG s0 l m x a ∧ (a.1 = 1 → a.2.2.2.2.1.1 = 2 → wm1 Q a.2.2.2.2.1.2.1 a.2.2.2.2.1.2.2 = false)) ∧ gS2 s0 l m Q st S
  | _, _ => False
theorem gS2_0 {s0 : Nat → Int} {l : List (Nat × Value)} {m : xM} : ∀ {st : List Value} {S : List aV}, gSt s0 l m st S → gS2 s0 l m [] st S
  | [], [], _ => trivial
  | _ :: _, _ :: _, h => ⟨⟨h.1, fun _ _ => rfl⟩, gS2_0 h.2⟩
  | [], _ :: _, h => h.elim
  | _ :: _, [], h => h.elim
theorem gS2_k {s0 : Nat → Int} {l : List (Nat × Value)} {m : xM} {Q : List (Nat × Nat × Nat)} {q : Nat × Nat × Nat} : ∀ {st : List Value} {S : List aV}, gS2 s0 l m Q st S → gS2 s0 l m (q :: Q) st (kilM [q.1] q.2.1 (q.2.2 - 1) S)
  | [], [], _ => trivial
  | x :: st, a :: S, h => by
    refine ⟨?_, gS2_k h.2⟩
    have key : ∀ a', a' = (bif ([q.1] : List Nat).any (fun c => sdm c q.2.1 (q.2.2 - 1) a) then aNs a else a) → aG s0 l m x a' ∧ (a'.1 = 1 → a'.2.2.2.2.1.1 = 2 → wm1 (q :: Q) a'.2.2.2.2.1.2.1 a'.2.2.2.2.1.2.2 = false) := by
      intro a' ha'
      cases e : ([q.1] : List Nat).any (fun c => sdm c q.2.1 (q.2.2 - 1) a) with
      | true =>
        rw [e] at ha'
        have ha' : a' = aNs a := ha'
        subst ha'
        exact ⟨⟨aH_ns h.1.1.1, sK_0 rfl⟩, fun _ c => by cases c⟩
      | false =>
        rw [e] at ha'
        have ha' : a' = a := ha'
        subst ha'
        refine ⟨h.1.1, fun h1 h2 => wm1_c.mpr ⟨fun z => ?_, h.1.2 h1 h2⟩⟩
        have := List.any_eq_false.mp e q.1 (List.mem_singleton.mpr rfl)
        apply this
        unfold sdm
        simp only [Bool.and_eq_true, beqN, bleN]
        exact ⟨h2, h1, z.1.symm, z.2.1, by have := z.2.2; omega⟩
    exact key _ rfl
  | [], _ :: _, h => h.elim
  | _ :: _, [], h => h.elim
theorem gS2_a {s0 : Nat → Int} {l : List (Nat × Value)} {m : xM} {st : List Value} {S : List aV} (h : gSt s0 l m st S) : ∀ {Q : List (Nat × Nat × Nat)}, gS2 s0 l m Q st (kMs Q S)
  | [] => gS2_0 h
  | _ :: _ => gS2_k (gS2_a h)
theorem gS2_e {s0 : Nat → Int} {l : List (Nat × Value)} {m m' : xM} {Q : List (Nat × Nat × Nat)} (hw : ∀ a i, wm1 Q a i = false → m'.1 a i = m.1 a i) : ∀ {st : List Value} {S : List aV}, gS2 s0 l m Q st S → gSt s0 l m' st S
  | [], [], _ => trivial
  | x :: st, a :: S, h => by
    refine ⟨⟨h.1.1.1, fun z hz => ?_, h.1.1.2.2⟩, gS2_e hw h.2⟩
    obtain ⟨g1, g2, g3⟩ := h.1.1.2.1 z hz
    have hk : a.1 = 1 := by
      rcases h.1.1.1 with ⟨_, b, hb, _⟩ | ⟨h1, _⟩ | ⟨_, b, hb, _⟩
      · rw [hz] at hb; cases hb
      · exact h1
      · rw [hz] at hb; cases hb
    exact ⟨g1, fun c => by rw [hw _ _ (h.1.2 hk c)]; exact g2 c, g3⟩
  | [], _ :: _, h => h.elim
  | _ :: _, [], h => h.elim
theorem rArgs_ok {s0 : Nat → Int} {l : List (Nat × Value)} {m : xM} : ∀ {vs : List Value} {as : List aV} {rs : List (Int × Int)} {L : aLs}, gSt s0 l m vs as → argB vs rs → gL s0 l L → gL s0 l (rArgs as rs L)
  | [], [], _, _, _, _, hL => hL
  | _ :: _, _ :: _, [], _, _, _, hL => hL
  | x :: vs, a :: as, r :: rs, L, h, hb, hL => by
    show gL s0 l (rArgs as rs (bif Nat.beq a.1 1 then rfLs a.2.2.2.2.1 r.1 r.2 L else bif Nat.ble 2 a.1 && Nat.beq a.2.2.2.2.1.1 1 then rfL a.2.2.2.2.1.2.1 r.1 r.2 L else L))
    refine rArgs_ok h.2 hb.2 ?_
    cases e : Nat.beq a.1 1 with
    | false =>
      cases e3 : (Nat.ble 2 a.1 && Nat.beq a.2.2.2.2.1.1 1) with
      | false => exact hL
      | true =>
        simp only [Bool.and_eq_true, bleN, beqN] at e3
        obtain ⟨w, e1, h1, h2⟩ := aH_long h.1.1 e3.1
        obtain ⟨y, e4, e5⟩ := (h.1.2.2 w e1).1 e3.2
        have h3 := hb.1.2 w e1
        rw [e5, Int32.toInt_toInt64] at h3
        exact gL_rfL hL (fun y' hy' => by rw [e4] at hy'; cases hy'; exact h3)
    | true =>
      obtain ⟨z, e1, h1, h2⟩ := aH_int h.1.1 (beqN.mp e)
      exact gL_rfLs hL (h.1.2.1 z e1) (hb.1.1 z e1)
  | [], _ :: _, _, _, h, _, _ => h.elim
  | _ :: _, [], _, _, h, _, _ => h.elim
theorem meF_in {F : aFs} {a i : Nat} {r : Int × Int} : ∀ {G : aFs}, fct a i (meF tS F G) = some r → ∃ r0, fct a i G = some r0 ∧ r = (imax (rd1 tS F a i).1 r0.1, imin (rd1 tS F a i).2 r0.2)
  | [], h => by cases h
  | (b, j, lo, hi) :: t, h => by
    have h : fct a i ((b, j, imax (rd1 tS F b j).1 lo, imin (rd1 tS F b j).2 hi) :: meF tS F t) = some r := h
    by_cases z : a = b ∧ i = j
    · obtain ⟨rfl, rfl⟩ := z
      rw [fct_h] at h ⊢
      cases h
      exact ⟨_, rfl, rfl⟩
    · rw [fct_t z] at h ⊢
      exact meF_in h
theorem meF_ok {m : xM} {F G : aFs} (hI : gI tS tR m) (hF : gF m F) (hG : gF m G) : gF m (meF tS F G) := by
  intro a i r h
  obtain ⟨r0, h1, rfl⟩ := meF_in h
  have h2 := hG a i r0 h1
  have h3 := rd1_ok hI hF a i
  refine ⟨?_, ?_⟩
  · show imax _ _ ≤ _
    unfold imax
    cases ile (rd1 tS F a i).1 r0.1
    · exact h3.1
    · exact h2.1
  · show _ ≤ imin _ _
    unfold imin
    cases ile (rd1 tS F a i).2 r0.2
    · exact h2.2
    · exact h3.2
theorem callA_ok {J : xM → Prop} {m0 : xM} {M : List (Nat × Nat × Nat)} {s0 : Nat → Int} {T : List aCt} {D d : Nat} (hT : ∀ c ∈ T, vC tS tR J D c) (hd : D ≤ d) (hJ : ∀ m, gM m0 M m → J m) : cOk tS tR m0 M s0 (callA tS T M) (xw d) := by
  intro j as Ka F h l m vs hI hM hF hS B hB
  unfold callA at h
  rw [qfd_eq] at h
  split at h
  · rename_i c e1
    have hc := List.mem_of_find?_eq_some e1
    have hp := List.find?_some e1
    simp only [Bool.and_eq_true, beqN] at hp
    obtain ⟨p1, p2, p3⟩ := hp
    simp only [Bool.and_eq_true] at h
    obtain ⟨h1, h2⟩ := h
    rw [qal_eq] at h1 h2
    simp only [qan_eq] at h1
    rw [← p1]
    refine hT c hc d hd m vs B hI (hJ m hM) (aLes_ok hS p2) (fLe_ok hI hF p3) (fun rv m' hpo => hB rv m' ?_)
    obtain ⟨g1, g2, o, ho, g3, g4, g5⟩ := hpo
    refine ⟨o.1.map aCl, rArgs as o.2.1, kMs c.2.2.2.2, fun F => meF tS (fMs c.2.2.2.2 F) o.2.2 ++ fMs c.2.2.2.2 F, List.all_eq_true.mp h2 o ho, g1, fun a i hw => ?_, ?_, fun L hL => rArgs_ok hS g4 hL, fun st S hS2 => gS2_e g2 (gS2_a hS2), ?_⟩
    · rw [g2 a i, hM a i hw]
      cases e : wm1 c.2.2.2.2 a i with
      | false => rfl
      | true =>
        obtain ⟨q, hq, hq2⟩ := List.any_eq_true.mp e
        obtain ⟨r, hr, hr2⟩ := List.any_eq_true.mp (List.all_eq_true.mp h1 q hq)
        simp only [Bool.and_eq_true, beqN, bleN, bltN] at hq2 hr2
        have : wm1 M a i = true := List.any_eq_true.mpr ⟨r, hr, by simp only [Bool.and_eq_true, beqN, bleN, bltN]; omega⟩
        rw [this] at hw
        cases hw
    · have k0 : gF m' (fMs c.2.2.2.2 F) := fun a i r hr => by
        obtain ⟨k1, k2⟩ := fMs_ok hr
        rw [g2 a i k2]
        exact hF a i r k1
      exact gF_app (meF_ok g1 k0 g5) k0
    · cases e : o.1 with
      | none =>
        rw [e] at g3
        exact g3
      | some a =>
        rw [e] at g3
        obtain ⟨x, k1, k2⟩ := g3
        exact ⟨x, k1, aH_s k2 rfl, sK_0 rfl⟩
  · cases h
end CTOK
