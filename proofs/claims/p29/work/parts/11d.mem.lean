/-! L2: the memory by ranges; what a compare tells -/
theorem gseg_h {i u : Nat} {lo hi : Int} {t : List (Nat × Int × Int)} (h : i < u) : gseg i ((u, lo, hi) :: t) = (lo, hi) := by
  show (bif Nat.blt i u then (lo, hi) else gseg i t) = _
  rw [bltN.mpr h]
  rfl
theorem gseg_t {i u : Nat} {lo hi : Int} {t : List (Nat × Int × Int)} (h : ¬ i < u) : gseg i ((u, lo, hi) :: t) = gseg i t := by
  show (bif Nat.blt i u then (lo, hi) else gseg i t) = _
  cases e : Nat.blt i u with
  | true => exact absurd (bltN.mp e) h
  | false => rfl
theorem gjo_ok {i0 i1 i : Nat} (h0 : i0 ≤ i) (h1 : i ≤ i1) : ∀ {t : List (Nat × Int × Int)}, (gjo i0 i1 t).1 ≤ (gseg i t).1 ∧ (gseg i t).2 ≤ (gjo i0 i1 t).2
  | [] => ⟨Int.le_refl _, Int.le_refl _⟩
  | (u, lo, hi) :: t => by
    have ih := gjo_ok h0 h1 (t := t)
    show (bif Nat.blt i1 u then (lo, hi) else bif Nat.ble u i0 then gjo i0 i1 t else (imin lo (gjo i0 i1 t).1, imax hi (gjo i0 i1 t).2)).1 ≤ _ ∧ _ ≤ (bif Nat.blt i1 u then (lo, hi) else bif Nat.ble u i0 then gjo i0 i1 t else (imin lo (gjo i0 i1 t).1, imax hi (gjo i0 i1 t).2)).2
    cases e1 : Nat.blt i1 u with
    | true =>
      have := bltN.mp e1
      rw [gseg_h (by omega)]
      exact ⟨Int.le_refl _, Int.le_refl _⟩
    | false =>
      cases e2 : Nat.ble u i0 with
      | true =>
        have := bleN.mp e2
        rw [gseg_t (by omega)]
        exact ih
      | false =>
        have a1 := imin_l (a := lo) (b := (gjo i0 i1 t).1)
        have a2 := imax_l (a := hi) (b := (gjo i0 i1 t).2)
        show imin lo (gjo i0 i1 t).1 ≤ _ ∧ _ ≤ imax hi (gjo i0 i1 t).2
        by_cases hu : i < u
        · rw [gseg_h hu]
          exact ⟨a1.1, a2.1⟩
        · rw [gseg_t hu]
          omega
theorem gck_ok {i0 i1 i : Nat} (h0 : i0 ≤ i) (h1 : i ≤ i1) {lo' hi' : Int} {x : Int32} (hx : lo' ≤ x.toInt ∧ x.toInt ≤ hi') : ∀ {t : List (Nat × Int × Int)}, gck i0 i1 lo' hi' t = true → (gseg i t).1 ≤ x.toInt ∧ x.toInt ≤ (gseg i t).2
  | [], _ => i32_rng x
  | (u, lo, hi) :: t, h => by
    have h : (bif Nat.blt i1 u then ile lo lo' && ile hi' hi else bif Nat.ble u i0 then gck i0 i1 lo' hi' t else (ile lo lo' && ile hi' hi) && gck i0 i1 lo' hi' t) = true := h
    cases e1 : Nat.blt i1 u with
    | true =>
      rw [e1] at h
      have := bltN.mp e1
      rw [gseg_h (by omega)]
      simp only [cond_true, Bool.and_eq_true, ile_iff] at h
      exact ⟨Int.le_trans h.1 hx.1, Int.le_trans hx.2 h.2⟩
    | false =>
      rw [e1] at h
      cases e2 : Nat.ble u i0 with
      | true =>
        rw [e2] at h
        have := bleN.mp e2
        rw [gseg_t (by omega)]
        exact gck_ok h0 h1 hx h
      | false =>
        rw [e2] at h
        simp only [cond_false, Bool.and_eq_true, ile_iff] at h
        by_cases hu : i < u
        · rw [gseg_h hu]
          exact ⟨Int.le_trans h.1.1 hx.1, Int.le_trans hx.2 h.1.2⟩
        · rw [gseg_t hu]
          exact gck_ok h0 h1 hx h.2
theorem fct_h {a i : Nat} {lo hi : Int} {F : aFs} : fct a i ((a, i, lo, hi) :: F) = some (lo, hi) := by
  show (bif Nat.beq a a && Nat.beq i i then some (lo, hi) else fct a i F) = _
  rw [beqN.mpr rfl, beqN.mpr rfl]
  rfl
theorem fct_t {a i b j : Nat} {lo hi : Int} {F : aFs} (h : ¬ (a = b ∧ i = j)) : fct a i ((b, j, lo, hi) :: F) = fct a i F := by
  show (bif Nat.beq a b && Nat.beq i j then some (lo, hi) else fct a i F) = _
  by_cases e : a = b
  · have : i ≠ j := fun z => h ⟨e, z⟩
    rw [beqF.mpr this, Bool.and_false]
    rfl
  · rw [beqF.mpr e]
    rfl
theorem fct_f {p : Nat → Nat → Bool} {a i : Nat} {r : Int × Int} : ∀ {F : aFs}, fct a i (F.filter (fun f => p f.1 f.2.1)) = some r → fct a i F = some r ∧ p a i = true
  | [], h => by cases h
  | (b, j, lo, hi) :: F, h => by
    cases hq : p b j with
    | true =>
      rw [List.filter_cons_of_pos (p := fun f : Nat × Nat × Int × Int => p f.1 f.2.1) hq] at h
      by_cases e : a = b ∧ i = j
      · obtain ⟨rfl, rfl⟩ := e
        rw [fct_h] at h ⊢
        exact ⟨h, hq⟩
      · rw [fct_t e] at h ⊢
        exact fct_f h
    | false =>
      rw [List.filter_cons_of_neg (p := fun f : Nat × Nat × Int × Int => p f.1 f.2.1) (by show ¬ p b j = true; rw [hq]; simp)] at h
      have h2 := fct_f h
      by_cases e : a = b ∧ i = j
      · obtain ⟨rfl, rfl⟩ := e
        rw [hq] at h2
        cases h2.2
      · rw [fct_t e]
        exact h2
section GMEM
variable {tS : Nat → List (Nat × Int × Int)} {tR : Nat → Nat → Option Nat} {m m' m0 : xM} {F : aFs} {M : List (Nat × Nat × Nat)}
theorem rd1_ok (hI : gI tS tR m) (hF : gF m F) (a i : Nat) : (rd1 tS F a i).1 ≤ (m.1 a i).toInt ∧ (m.1 a i).toInt ≤ (rd1 tS F a i).2 := by
  unfold rd1
  cases e : fct a i F with
  | some r => exact hF a i r e
  | none => exact hI.1 a i
theorem rdJ_ok (hI : gI tS tR m) {i0 i1 i : Nat} (h0 : i0 ≤ i) (h1 : i ≤ i1) : ∀ {cs : List Nat} {a : Nat}, a ∈ cs → (rdJ tS i0 i1 cs).1 ≤ (m.1 a i).toInt ∧ (m.1 a i).toInt ≤ (rdJ tS i0 i1 cs).2
  | [], a, h => by cases h
  | [c], a, h => by
    obtain rfl := List.mem_singleton.mp h
    have h2 := gjo_ok h0 h1 (t := tS a)
    have h3 := hI.1 a i
    show (gjo i0 i1 (tS a)).1 ≤ _ ∧ _ ≤ (gjo i0 i1 (tS a)).2
    omega
  | c :: d :: t, a, h => by
    have a1 := imin_l (a := (gjo i0 i1 (tS c)).1) (b := (rdJ tS i0 i1 (d :: t)).1)
    have a2 := imax_l (a := (gjo i0 i1 (tS c)).2) (b := (rdJ tS i0 i1 (d :: t)).2)
    show imin (gjo i0 i1 (tS c)).1 (rdJ tS i0 i1 (d :: t)).1 ≤ _ ∧ _ ≤ imax (gjo i0 i1 (tS c)).2 (rdJ tS i0 i1 (d :: t)).2
    rcases List.mem_cons.mp h with h | h
    · subst h
      have h2 := gjo_ok h0 h1 (t := tS a)
      have h3 := hI.1 a i
      omega
    · have := rdJ_ok hI h0 h1 h
      omega
theorem rdA_ok (hI : gI tS tR m) (hF : gF m F) {s0 : Nat → Int} {l : List (Nat × Value)} {i0 i1 i a : Nat} {cs : List Nat} (ha : a ∈ cs) (h0 : i0 ≤ i) (h1 : i ≤ i1) : aG s0 l m (.int (m.1 a i)) (rdA tS F cs i0 i1) := by
  unfold rdA
  split
  · rename_i c
    obtain rfl := List.mem_singleton.mp ha
    cases e : Nat.beq i0 i1 with
    | true =>
      have := beqN.mp e
      have hi : i = i0 := by omega
      subst hi
      refine ⟨aH_I rfl (rd1_ok hI hF a i) trivial, fun x hx => ⟨fun z => (by cases z), fun _ => ?_, fun z => (by cases z)⟩, fun w hw => (by cases hw)⟩
      cases hx
      rfl
    | false =>
      have h2 := gjo_ok h0 h1 (t := tS a)
      have h3 := hI.1 a i
      exact aG_I (by show (gjo i0 i1 (tS a)).1 ≤ _ ∧ _; omega)
  · exact aG_I (rdJ_ok hI h0 h1 ha)
theorem wMs_ok {a i0 i1 i : Nat} (h : wMs M a i0 i1 = true) (h0 : i0 ≤ i) (h1 : i ≤ i1) : wm1 M a i = true := by
  unfold wMs at h
  rw [qan_eq] at h
  obtain ⟨q, hq, h2⟩ := List.any_eq_true.mp h
  refine List.any_eq_true.mpr ⟨q, hq, ?_⟩
  simp only [Bool.and_eq_true, beqN, bleN, bltN] at h2 ⊢
  omega
/-- how the memory differs after a write within cs at i0 .. i1 -/
def gW (m m' : xM) (cs : List Nat) (i0 i1 : Nat) : Prop := ∀ b j, ¬ (b ∈ cs ∧ i0 ≤ j ∧ j ≤ i1) → m'.1 b j = m.1 b j
theorem gM_w (hM : gM m0 M m) {cs : List Nat} {i0 i1 : Nat} (hw : gW m m' cs i0 i1) (hc : ∀ a ∈ cs, wMs M a i0 i1 = true) : gM m0 M m' := by
  intro a i h
  rw [hw a i (fun z => by rw [wMs_ok (hc a z.1) z.2.1 z.2.2] at h; cases h)]
  exact hM a i h
theorem gF_fil (hF : gF m F) {cs : List Nat} {i0 i1 : Nat} (hw : gW m m' cs i0 i1) : gF m' (filM cs i0 i1 F) := by
  intro a i r h
  simp only [filM, qfl_eq, qan_eq] at h
  obtain ⟨h1, h2⟩ := fct_f (p := fun a i => !(cs.any (fun c => Nat.beq a c && (Nat.ble i0 i && Nat.ble i i1)))) h
  rw [hw a i (fun z => ?_)]
  · exact hF a i r h1
  · simp only [Bool.not_eq_true', List.any_eq_false, Bool.and_eq_true, beqN, bleN] at h2
    exact h2 a z.1 ⟨rfl, z.2.1, z.2.2⟩
theorem gF_wr (hF : gF m F) {cs : List Nat} {i0 i1 a i : Nat} (hw : ∀ b j, ¬ (b = a ∧ j = i) → m'.1 b j = m.1 b j) (ha : a ∈ cs) (h0 : i0 ≤ i) (h1 : i ≤ i1) {lo hi : Int} (hx : lo ≤ (m'.1 a i).toInt ∧ (m'.1 a i).toInt ≤ hi) : gF m' (wrF F cs i0 i1 lo hi) := by
  have hw2 : gW m m' cs i0 i1 := fun b j hb => hw b j (fun z => hb ⟨by rw [z.1]; exact ha, by omega, by omega⟩)
  unfold wrF
  split
  · rename_i c
    obtain rfl := List.mem_singleton.mp ha
    cases e : Nat.beq i0 i1 with
    | true =>
      have := beqN.mp e
      have hi9 : i = i0 := by omega
      subst hi9
      intro b j r h
      have h : fct b j ((a, i, lo, hi) :: filM [a] i i1 F) = some r := h
      by_cases z : b = a ∧ j = i
      · obtain ⟨rfl, rfl⟩ := z
        rw [fct_h] at h
        cases h
        exact hx
      · rw [fct_t z] at h
        exact gF_fil hF hw2 b j r h
    | false => exact gF_fil hF hw2
  · exact gF_fil hF hw2
theorem gI_w (hI : gI tS tR m) {a i : Nat} (h2 : m'.2.2 = m.2.2) (hw : ∀ b j, ¬ (b = a ∧ j = i) → m'.1 b j = m.1 b j) (hx : (gseg i (tS a)).1 ≤ (m'.1 a i).toInt ∧ (m'.1 a i).toInt ≤ (gseg i (tS a)).2) : gI tS tR m' := by
  refine ⟨fun b j => ?_, by rw [h2]; exact hI.2⟩
  by_cases z : b = a ∧ j = i
  · obtain ⟨rfl, rfl⟩ := z
    exact hx
  · rw [hw b j z]
    exact hI.1 b j
theorem aG_kilM {s0 : Nat → Int} {l : List (Nat × Value)} {cs : List Nat} {i0 i1 : Nat} (hw : gW m m' cs i0 i1) (x : Value) (a : aV) (h : aG s0 l m x a) : aG s0 l m' x (bif cs.any (fun c => sdm c i0 i1 a) then aNs a else a) := by
  cases e : cs.any (fun c => sdm c i0 i1 a) with
  | true => exact ⟨aH_ns h.1, sK_0 rfl⟩
  | false =>
    show aG s0 l m' x a
    refine ⟨h.1, fun z hz => ?_, fun w hw2 => h.2.2 w hw2⟩
    obtain ⟨g1, g2, g3⟩ := h.2.1 z hz
    refine ⟨g1, fun c => ?_, g3⟩
    have hk : a.1 = 1 := by
      rcases h.1 with ⟨_, b, hb, _⟩ | ⟨h1, _⟩ | ⟨_, b, hb, _⟩
      · rw [hz] at hb; cases hb
      · exact h1
      · rw [hz] at hb; cases hb
    rw [hw _ _ (fun q => ?_)]
    · exact g2 c
    · have := List.any_eq_false.mp e _ q.1
      apply this
      unfold sdm
      simp only [Bool.and_eq_true, beqN, bleN]
      exact ⟨c, hk, trivial, q.2.1, q.2.2⟩
theorem gSt_kilM {s0 : Nat → Int} {l : List (Nat × Value)} {cs : List Nat} {i0 i1 : Nat} (hw : gW m m' cs i0 i1) {st : List Value} {S : List aV} (h : gSt s0 l m st S) : gSt s0 l m' st (kilM cs i0 i1 S) := by
  simp only [kilM, qmp_eq, qan_eq]
  exact gSt_map (aG_kilM hw) h
theorem gSt_m1 {s0 : Nat → Int} {l : List (Nat × Value)} (hw : m'.1 = m.1) {st : List Value} {S : List aV} (h : gSt s0 l m st S) : gSt s0 l m' st S := by
  have := gSt_map (f := fun a => a) (m' := m') (l' := l) (fun x a (h : aG s0 l m x a) => (⟨h.1, fun z hz => by
    obtain ⟨g1, g2, g3⟩ := h.2.1 z hz
    exact ⟨g1, fun c => by rw [hw]; exact g2 c, g3⟩, h.2.2⟩ : aG s0 l m' x a)) h
  rwa [List.map_id'] at this
theorem rfN_ok (hI : gI tS tR m) {c i0 : Nat} : ∀ {n : Nat} {cs : List Nat}, rfN tR c i0 n = some cs → ∀ i, i0 ≤ i → i < i0 + n → ∃ b, m.2.2 c i = some b ∧ b ∈ cs
  | 0, cs, _, i, h1, h2 => by omega
  | n + 1, cs, h, i, h1, h2 => by
    unfold rfN at h
    split at h
    · rename_i b t e1 e2
      cases h
      by_cases e : i = i0 + n
      · subst e
        exact ⟨b, hI.2 _ _ _ e1, List.mem_cons_self⟩
      · obtain ⟨b', h3, h4⟩ := rfN_ok hI e2 i h1 (by omega)
        exact ⟨b', h3, List.mem_cons_of_mem _ h4⟩
    · cases h
theorem rfC_ok (hI : gI tS tR m) {i0 n : Nat} : ∀ {cs ds : List Nat}, rfC tR i0 n cs = some ds → ∀ c ∈ cs, ∀ i, i0 ≤ i → i < i0 + n → ∃ b, m.2.2 c i = some b ∧ b ∈ ds
  | [], _, _, c, hc => by cases hc
  | c :: t, ds, h, a, ha => by
    intro i h1 h2
    unfold rfC at h
    split at h
    · rename_i x y e1 e2
      cases h
      rcases List.mem_cons.mp ha with e | e
      · subst e
        obtain ⟨b, h3, h4⟩ := rfN_ok hI e1 i h1 h2
        exact ⟨b, h3, List.mem_append_left _ h4⟩
      · obtain ⟨b, h3, h4⟩ := rfC_ok hI e2 a e i h1 h2
        exact ⟨b, h3, List.mem_append_right _ h4⟩
    · cases h
theorem cmn_ok {a i0 : Nat} : ∀ {n i : Nat}, i0 ≤ i → i < i0 + n → (cmn a i0 n).1 ≤ (cst a i).toInt ∧ (cst a i).toInt ≤ (cmn a i0 n).2
  | 0, i, h1, h2 => by omega
  | n + 1, i, h1, h2 => by
    unfold cmn
    by_cases e : i = i0 + n
    · rw [e]
      generalize (cst a (i0 + n)).toInt = u
      exact ⟨imin_l.1, imax_l.1⟩
    · have h3 : i < i0 + n := by omega
      have h4 := cmn_ok (a := a) (n := n) h1 h3
      revert h4
      generalize (cst a (i0 + n)).toInt = u
      generalize (cst a i).toInt = w
      intro h4
      exact ⟨Int.le_trans imin_l.2 h4.1, Int.le_trans h4.2 imax_l.2⟩
-- what a compare tells
def rfv (lo hi : Int) (v : aV) : aV := bif Nat.beq v.1 1 then (1, [], imax v.2.2.1 lo, imin v.2.2.2.1 hi, (0, 0, 0), v.2.2.2.2.2) else v
theorem lkA_rfL {j k : Nat} {lo hi : Int} : ∀ {L : aLs}, lkA k (rfL j lo hi L) = if k = j then (lkA j L).map (rfv lo hi) else lkA k L
  | [] => by
    by_cases e : k = j
    · rw [if_pos e]; rfl
    · rw [if_neg e]; rfl
  | (i, v) :: t => by
    have ih := lkA_rfL (j := j) (k := k) (lo := lo) (hi := hi) (L := t)
    show lkA k (bif Nat.beq i j then (bif Nat.beq v.1 1 then (i, (1, [], imax v.2.2.1 lo, imin v.2.2.2.1 hi, (0, 0, 0), v.2.2.2.2.2)) :: t else (i, v) :: t) else (i, v) :: rfL j lo hi t) = _
    by_cases e : i = j
    · subst e
      rw [beqN.mpr rfl]
      have h2 : (bif Nat.beq v.1 1 then (i, (1, [], imax v.2.2.1 lo, imin v.2.2.2.1 hi, (0, 0, 0), v.2.2.2.2.2)) :: t else (i, v) :: t) = (i, rfv lo hi v) :: t := by
        unfold rfv
        cases Nat.beq v.1 1 <;> rfl
      rw [cond_true, h2]
      by_cases e2 : k = i
      · subst e2
        rw [if_pos rfl, lkA_h, lkA_h]
        rfl
      · rw [if_neg e2, lkA_t (Ne.symm e2), lkA_t (Ne.symm e2)]
    · rw [beqF.mpr e, cond_false]
      by_cases e2 : k = j
      · subst e2
        rw [if_pos rfl] at ih ⊢
        rw [lkA_t e, lkA_t e]
        exact ih
      · rw [if_neg e2] at ih ⊢
        by_cases e3 : i = k
        · subst e3
          rw [lkA_h, lkA_h]
        · rw [lkA_t e3, lkA_t e3]
          exact ih
theorem gL_rfL {s0 : Nat → Int} {l : List (Nat × Value)} {j : Nat} {lo hi : Int} {L : aLs} (h : gL s0 l L) (hx : ∀ x, lkl j l = some (.int x) → lo ≤ x.toInt ∧ x.toInt ≤ hi) : gL s0 l (rfL j lo hi L) := by
  intro k w hw
  rw [lkA_rfL] at hw
  by_cases e : k = j
  · subst e
    rw [if_pos rfl] at hw
    obtain ⟨v, hv, e2⟩ := Option.map_eq_some_iff.mp hw
    obtain ⟨x, h1, h2⟩ := h k v hv
    refine ⟨x, h1, ?_⟩
    rw [← e2]
    unfold rfv
    cases hk : Nat.beq v.1 1 with
    | false => exact h2
    | true =>
      obtain ⟨z, e3, h4, h5⟩ := aH_int h2 (beqN.mp hk)
      subst e3
      have h6 := hx z h1
      refine aH_I rfl ?_ h5
      show imax v.2.2.1 lo ≤ _ ∧ _ ≤ imin v.2.2.2.1 hi
      rcases imax_c (a := v.2.2.1) (b := lo) with c1 | c1 <;> rcases imin_c (a := v.2.2.2.1) (b := hi) with c2 | c2 <;> rw [c1, c2] <;> omega
  · rw [if_neg e] at hw
    exact h k w hw
theorem gL_rfLs {s0 : Nat → Int} {l : List (Nat × Value)} {s : aS} {x : Int32} {lo hi : Int} {L : aLs} (h : gL s0 l L) (hs : sOk l m x s) (hx : lo ≤ x.toInt ∧ x.toInt ≤ hi) : gL s0 l (rfLs s lo hi L) := by
  unfold rfLs
  split
  · rename_i j z
    refine gL_rfL h (fun y hy => ?_)
    have h2 := hs.1 rfl
    rw [hy] at h2
    cases h2
    exact hx
  · exact h
theorem gF_rfFs (hI : gI tS tR m) {l : List (Nat × Value)} {s : aS} {x : Int32} {lo hi : Int} (h : gF m F) (hs : sOk l m x s) (hx : lo ≤ x.toInt ∧ x.toInt ≤ hi) : gF m (rfFs tS s lo hi F) := by
  unfold rfFs
  split
  · rename_i a i
    have h2 := hs.2.1 rfl
    have h3 := rd1_ok hI h a i
    intro b j r hr
    by_cases z : b = a ∧ j = i
    · obtain ⟨rfl, rfl⟩ := z
      rw [fct_h] at hr
      cases hr
      have h2 : m.1 b j = x := h2
      rw [h2] at h3 ⊢
      show imax (rd1 tS F b j).1 lo ≤ _ ∧ _ ≤ imin (rd1 tS F b j).2 hi
      rcases imax_c (a := (rd1 tS F b j).1) (b := lo) with c1 | c1 <;> rcases imin_c (a := (rd1 tS F b j).2) (b := hi) with c2 | c2 <;> rw [c1, c2] <;> omega
    · rw [fct_t z] at hr
      exact h b j r hr
  · exact h
def nzv (v : aV) : aV := bif Nat.beq v.1 2 then (3, v.2.1, v.2.2.1, v.2.2.2.1, v.2.2.2.2.1, none) else v
theorem lkA_nzL {j k : Nat} : ∀ {L : aLs}, lkA k (nzL j L) = if k = j then (lkA j L).map nzv else lkA k L
  | [] => by
    by_cases e : k = j
    · rw [if_pos e]; rfl
    · rw [if_neg e]; rfl
  | (i, v) :: t => by
    have ih := lkA_nzL (j := j) (k := k) (L := t)
    show lkA k (bif Nat.beq i j then (bif Nat.beq v.1 2 then (i, (3, v.2.1, v.2.2.1, v.2.2.2.1, v.2.2.2.2.1, none)) :: t else (i, v) :: t) else (i, v) :: nzL j t) = _
    by_cases e : i = j
    · subst e
      rw [beqN.mpr rfl]
      have h2 : (bif Nat.beq v.1 2 then (i, (3, v.2.1, v.2.2.1, v.2.2.2.1, v.2.2.2.2.1, none)) :: t else (i, v) :: t) = (i, nzv v) :: t := by
        unfold nzv
        cases Nat.beq v.1 2 <;> rfl
      rw [cond_true, h2]
      by_cases e2 : k = i
      · subst e2
        rw [if_pos rfl, lkA_h, lkA_h]
        rfl
      · rw [if_neg e2, lkA_t (Ne.symm e2), lkA_t (Ne.symm e2)]
    · rw [beqF.mpr e, cond_false]
      by_cases e2 : k = j
      · subst e2
        rw [if_pos rfl] at ih ⊢
        rw [lkA_t e, lkA_t e]
        exact ih
      · rw [if_neg e2] at ih ⊢
        by_cases e3 : i = k
        · subst e3
          rw [lkA_h, lkA_h]
        · rw [lkA_t e3, lkA_t e3]
          exact ih
theorem cmp_00 : lg_cmp 0 0 = 0 := by decide
theorem gL_nzS {s0 : Nat → Int} {l : List (Nat × Value)} {s : aS} {x : Int32} {L : aLs} (h : gL s0 l L) (hs : sOk l m x s) (hx : x ≠ 0) : gL s0 l (nzS s L) := by
  unfold nzS
  split
  · rename_i j z
    obtain ⟨w, h1, h2⟩ := hs.2.2 rfl
    have hw0 : w ≠ 0 := fun e => hx (by rw [h2, e]; exact cmp_00)
    intro k v hv
    rw [lkA_nzL] at hv
    by_cases e : k = j
    · subst e
      rw [if_pos rfl] at hv
      obtain ⟨u, hu, e2⟩ := Option.map_eq_some_iff.mp hv
      obtain ⟨y, h3, h4⟩ := h k u hu
      have h1 : lkl k l = some (.long w) := h1
      rw [h1] at h3
      cases h3
      refine ⟨_, h1, ?_⟩
      rw [← e2]
      unfold nzv
      cases hk : Nat.beq u.1 2 with
      | false => exact h4
      | true =>
        obtain ⟨w', e3, h5, -⟩ := aH_long h4 (by rw [beqN.mp hk]; exact Nat.le_refl _)
        cases e3
        exact Or.inr (Or.inr ⟨Or.inr rfl, w, rfl, h5, fun _ => hw0⟩)
    · rw [if_neg e] at hv
      exact h k v hv
  · exact h
theorem br1_ok (hI : gI tS tR m) {s0 : Nat → Int} {l : List (Nat × Value)} {kA : Nat → aLs → List aV → aFs → Bool} {pc : Nat} {xa : aV} {x : Int32} {lo hi : Int} {L : aLs} {R : List aV} (h : br1 tS kA pc xa lo hi L R F = true) (hL : gL s0 l L) (hF : gF m F) (hs : sOk l m x xa.2.2.2.2.1) (hx : xa.2.2.1 ≤ x.toInt ∧ x.toInt ≤ xa.2.2.2.1) (hr : lo ≤ x.toInt ∧ x.toInt ≤ hi) : ∃ L' F', kA pc L' R F' = true ∧ gL s0 l L' ∧ gF m F' := by
  unfold br1 at h
  have e : ile (imax xa.2.2.1 lo) (imin xa.2.2.2.1 hi) = true := by
    rw [ile_iff]
    rcases imax_c (a := xa.2.2.1) (b := lo) with c1 | c1 <;> rcases imin_c (a := xa.2.2.2.1) (b := hi) with c2 | c2 <;> rw [c1, c2] <;> omega
  rw [e] at h
  exact ⟨_, _, h, gL_rfLs hL hs hr, gF_rfFs hI hF hs hr⟩
theorem br2_ok (hI : gI tS tR m) {s0 : Nat → Int} {l : List (Nat × Value)} {kA : Nat → aLs → List aV → aFs → Bool} {pc : Nat} {xa ya : aV} {x y : Int32} {lo hi lo' hi' : Int} {L : aLs} {R : List aV} (h : br2 tS kA pc xa ya lo hi lo' hi' L R F = true) (hL : gL s0 l L) (hF : gF m F) (hs : sOk l m x xa.2.2.2.2.1) (hx : xa.2.2.1 ≤ x.toInt ∧ x.toInt ≤ xa.2.2.2.1) (hr : lo ≤ x.toInt ∧ x.toInt ≤ hi) (hs' : sOk l m y ya.2.2.2.2.1) (hy : ya.2.2.1 ≤ y.toInt ∧ y.toInt ≤ ya.2.2.2.1) (hr' : lo' ≤ y.toInt ∧ y.toInt ≤ hi') : ∃ L' F', kA pc L' R F' = true ∧ gL s0 l L' ∧ gF m F' := by
  unfold br2 at h
  have e : ile (imax xa.2.2.1 lo) (imin xa.2.2.2.1 hi) = true := by
    rw [ile_iff]
    rcases imax_c (a := xa.2.2.1) (b := lo) with c1 | c1 <;> rcases imin_c (a := xa.2.2.2.1) (b := hi) with c2 | c2 <;> rw [c1, c2] <;> omega
  have e2 : ile (imax ya.2.2.1 lo') (imin ya.2.2.2.1 hi') = true := by
    rw [ile_iff]
    rcases imax_c (a := ya.2.2.1) (b := lo') with c1 | c1 <;> rcases imin_c (a := ya.2.2.2.1) (b := hi') with c2 | c2 <;> rw [c1, c2] <;> omega
  rw [e, e2] at h
  exact ⟨_, _, h, gL_rfLs (gL_rfLs hL hs hr) hs' hr', gF_rfFs hI (gF_rfFs hI hF hs hr) hs' hr'⟩
end GMEM
