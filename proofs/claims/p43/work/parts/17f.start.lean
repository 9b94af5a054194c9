/-! L3: the world behind the two constructors -/
theorem yI_mem : ∀ {l : List (Nat × Nat × Int32)} {b j : Nat}, yI l b j = 0 ∨ (b, j, yI l b j) ∈ l
  | [], _, _ => Or.inl rfl
  | (a, i, v) :: t, b, j => by
    by_cases h : a = b ∧ i = j
    · obtain ⟨rfl, rfl⟩ := h
      refine Or.inr ?_
      show (a, i, (bif Nat.beq a a then (bif Nat.beq i i then v else yI t a i) else yI t a i)) ∈ _
      rw [beqN.mpr rfl, beqN.mpr rfl]
      exact List.mem_cons_self
    · have e : yI ((a, i, v) :: t) b j = yI t b j := by
        show (bif Nat.beq a b then (bif Nat.beq i j then v else yI t b j) else yI t b j) = _
        by_cases h1 : a = b
        · rw [beqN.mpr h1, beqF.mpr (fun z => h ⟨h1, z⟩)]
          rfl
        · rw [beqF.mpr h1]
          rfl
      rw [e]
      rcases yI_mem (l := t) (b := b) (j := j) with h2 | h2
      · exact Or.inl h2
      · exact Or.inr (List.mem_cons_of_mem _ h2)
theorem gseg_0 {i : Nat} : ∀ {l : List (Nat × Int × Int)}, l.all (fun q => ile q.2.1 0 && ile 0 q.2.2) = true → (gseg i l).1 ≤ 0 ∧ 0 ≤ (gseg i l).2
  | [], _ => ⟨by show iLo ≤ 0; decide, by show (0 : Int) ≤ iHi; decide⟩
  | (u, lo, hi) :: t, h => by
    rw [List.all_cons, Bool.and_eq_true] at h
    have h1 := h.1
    simp only [Bool.and_eq_true, ile_iff] at h1
    show (bif Nat.blt i u then (lo, hi) else gseg i t).1 ≤ 0 ∧ 0 ≤ (bif Nat.blt i u then (lo, hi) else gseg i t).2
    cases Nat.blt i u with
    | true => exact h1
    | false => exact gseg_0 h.2
theorem tS_0 : tSL.all (fun l => l.all (fun q => ile q.2.1 0 && ile 0 q.2.2)) = true := by decide +kernel
theorem tS_in (a : Nat) : tS a ∈ tSL ∨ tS a = [] := by
  rw [tS_eq, List.getD_eq_getElem?_getD]
  cases h : tSL[a]? with
  | none => exact Or.inr rfl
  | some x => exact Or.inl (List.mem_of_getElem? h)
noncomputable def gLB (l : List (Nat × Nat × Int32)) : Bool := l.all (fun e => ile (gseg e.2.1 (tS e.1)).1 e.2.2.toInt && ile e.2.2.toInt (gseg e.2.1 (tS e.1)).2)
def gRB (r : List (Nat × Nat × Nat)) : Bool := (List.range 335).all (fun a => (List.range (tRL.getD a []).length).all (fun i => match tR a i with
  | some b => (match yR r a i with
    | some c => Nat.beq c b
    | none => false)
  | none => true))
theorem gI_y {l : List (Nat × Nat × Int32)} {r : List (Nat × Nat × Nat)} {n : Nat} (h1 : gLB l = true) (h2 : gRB r = true) (h3 : tRL.length ≤ 335) : gI tS tR (ym (l, r, n)) := by
  refine ⟨fun a i => ?_, fun a i b hb => ?_⟩
  · show (gseg i (tS a)).1 ≤ (yI l a i).toInt ∧ (yI l a i).toInt ≤ (gseg i (tS a)).2
    rcases yI_mem (l := l) (b := a) (j := i) with h | h
    · rw [h]
      have : (gseg i (tS a)).1 ≤ 0 ∧ 0 ≤ (gseg i (tS a)).2 := by
        rcases tS_in a with h4 | h4
        · exact gseg_0 (List.all_eq_true.mp tS_0 _ h4)
        · rw [h4]
          exact gseg_0 rfl
      exact this
    · have h4 := List.all_eq_true.mp h1 _ h
      simp only [Bool.and_eq_true, ile_iff] at h4
      exact h4
  · have hb0 := hb
    rw [tR_eq, List.getD_eq_getElem?_getD] at hb
    have hi : i < (tRL.getD a []).length := by
      cases h : (tRL.getD a [])[i]? with
      | none => rw [h] at hb; cases hb
      | some x => exact (List.getElem?_eq_some_iff.mp h).1
    have ha : a < 335 := by
      rw [List.getD_eq_getElem?_getD] at hi
      cases h : tRL[a]? with
      | none => rw [h] at hi; exact absurd hi (Nat.not_lt_zero _)
      | some x => exact Nat.lt_of_lt_of_le (List.getElem?_eq_some_iff.mp h).1 h3
    have h4 := List.all_eq_true.mp (List.all_eq_true.mp h2 a (List.mem_range.mpr ha)) i (List.mem_range.mpr hi)
    rw [hb0] at h4
    show yR r a i = some b
    cases h5 : yR r a i with
    | none => rw [h5] at h4; cases h4
    | some c =>
      rw [h5] at h4
      exact congrArg some (beqN.mp h4)
def ysZ (z : List (Nat × Nat × Int32)) : Bool := z.all (fun q => !(Nat.beq q.1 2) && !(Nat.beq q.1 315)) && (decide (yI z 1 1 = 0) && (decide (yI z 314 6 = 0) && (decide (yI z 3 1 = yI z 314 26) && (decide (yI z 47 4 = 0) && (decide (yI z 314 7 = 0) && (decide (yI z 55 4 = 0) && decide (yI z 314 30 = 0)))))))
theorem ysZ_ok {z : yS} (h : ysZ z.1 = true) : rel (ym z) := by
  unfold ysZ at h
  simp only [Bool.and_eq_true, decide_eq_true_eq] at h
  obtain ⟨h0, h1, h2, h3, h4, h5, h6, h7⟩ := h
  have hz : ∀ a, a = 2 ∨ a = 315 → ∀ i, (ym z).1 a i = 0 := by
    intro a ha i
    rcases yI_mem (l := z.1) (b := a) (j := i) with e | e
    · exact e
    · have := List.all_eq_true.mp h0 _ e
      simp only [Bool.and_eq_true, Bool.not_eq_true', beqF] at this
      rcases ha with rfl | rfl
      · exact absurd rfl this.1
      · exact absurd rfl this.2
  refine ⟨0, 0, 0, by decide, by decide, by decide, h1, h2, funext fun i => ?_, fun i => ?_, h3, h4, h5, h6, h7, fun k hk => absurd hk (Nat.not_lt_zero _)⟩
  · show (ym z).1 2 i = (ym z).1 315 i &&& 255
    rw [hz 2 (Or.inl rfl), hz 315 (Or.inr rfl)]
    decide
  · rw [hz 315 (Or.inr rfl)]
    unfold byR
    decide
noncomputable def ysB : Bool := match yw 20 95 [.ref 0] ([], [], 1) with
  | some y => Nat.beq y.2.2 314 && (yfr y && (ycm 314 y.2.1 && (match yw 20 154 [.ref 314] (y.1, y.2.1, 315) with
    | some z => Nat.beq z.2.2 334 && (yfr z && (ycm 334 z.2.1 && (gLB z.1 && (gRB z.2.1 && (Nat.beq (yI z.1 314 26).toNatClampNeg 0 && (ile (yI z.1 314 26).toInt 0 && (ysZ z.1 && (ysS z.1 && ysP z.1))))))))
    | none => false)))
  | none => false
set_option maxRecDepth 1000000 in
theorem ysB_ok : ysB = true := by decide +kernel
theorem tRL_le : tRL.length ≤ 335 := by decide +kernel
theorem ys_ex : ∃ y z : yS, yw 20 95 [.ref 0] ([], [], 1) = some y ∧ y.2.2 = 314 ∧ yfr y = true ∧ ycm 314 y.2.1 = true ∧ yw 20 154 [.ref 314] (y.1, y.2.1, 315) = some z ∧ z.2.2 = 334 ∧ yfr z = true ∧ ycm 334 z.2.1 = true ∧ Inv (ym z) := by
  have h := ysB_ok
  unfold ysB at h
  split at h
  · rename_i y e1
    simp only [Bool.and_eq_true, beqN] at h
    obtain ⟨h1, h2, h3, h4⟩ := h
    split at h4
    · rename_i z e2
      simp only [Bool.and_eq_true, beqN, ile_iff] at h4
      obtain ⟨g1, g7, g8, g2, g3, g4, g5, g6⟩ := h4
      refine ⟨y, z, e1, h1, h2, h3, e2, g1, g7, g8, gI_y (n := z.2.2) g2 g3 tRL_le, ?_, ysZ_ok g6.1, ysS_ok g6.2.1, ysP_ok g6.2.2⟩
      have hz : ¬ 0 < (yI z.1 314 26).toInt := by omega
      exact ⟨fun e9 _ h9 => absurd (show (e9 : Int) < (yI z.1 314 26).toInt from h9) (by omega), fun h9 => absurd h9 hz⟩
    · cases h4
  · cases h
/-- the classes of the arrays -/
theorem st_cA {s : State} {b : Nat} (hts : ∀ w ∈ lw_tbl, w.before #[Value.ref b] s = true) : ∃ cA : Nat → ClassId, ∀ (k : Nat) (x : ClassId × FieldType), (xty cA)[k]? = some x → ArrOfT s x.1 x.2 ∧ va_RA s x.1 x.2 := by
  obtain ⟨c0, k0, p0, a1, a2, a3⟩ := Cond.arrayClass_spec (hts _ ak_int)
  obtain ⟨c1, k1, p1, b1, b2, b3⟩ := Cond.arrayClass_spec (hts _ ak_byte)
  obtain ⟨c2, k2, p2, d1, d2, d3⟩ := Cond.arrayClass_spec (hts _ ak_bool)
  obtain ⟨c4, k4, p4, e1, e2, e3⟩ := Cond.arrayClass_spec (hts _ ak_long)
  obtain ⟨p5, c5, k5, f1, f2, f3, f4, f5⟩ := Cond.arrayOver_spec (hts (.arrayOver (.object "WallChapels$Scene")) (lwA_in (i := 471) (by decide +kernel)))
  obtain ⟨p6, c6, k6, g1, g2, g3, g4⟩ := Cond.arrayOver_specA (hts (.arrayOver (.array .int)) (lwA_in (i := 213) (by decide +kernel)))
  have mk : ∀ (c : ClassId) (k : Class) (comp : ClassId) (ty : FieldType), s.vm.classes[c]? = some k → k.kind = .array comp ty → ArrOfT s c ty := fun c k comp ty h1 h2 N z => ⟨(fun k h => by cases h), k, h1, comp, h2⟩
  refine ⟨fun k => match k with | 0 => c0 | 1 => c1 | 2 => c2 | 4 => c4 | 5 => c5 | 6 => c6 | _ => c0, fun k x hx => ?_⟩
  match k, hx with
  | 0, hx => cases hx; exact ⟨mk _ _ _ _ a2 a3, a1⟩
  | 1, hx => cases hx; exact ⟨mk _ _ _ _ b2 b3, b1⟩
  | 2, hx => cases hx; exact ⟨mk _ _ _ _ d2 d3, d1⟩
  | 3, hx => cases hx; exact ⟨mk _ _ _ _ a2 a3, a1⟩
  | 4, hx => cases hx; exact ⟨mk _ _ _ _ e2 e3, e1⟩
  | 5, hx => cases hx; exact ⟨mk _ _ _ _ f3 f4, k5, p5, f3, f4, f1, f5⟩
  | 6, hx => cases hx; exact ⟨mk _ _ _ _ g2 g3, g4⟩
  | k + 7, hx => simp [xty] at hx
theorem st_K {s : State} {b : Nat} (hts : ∀ w ∈ lw_tbl, w.before #[Value.ref b] s = true) : ∃ (dC : Nat → ClassId) (dI : Nat → Nat → Nat), ∀ (k : Nat) (x : vw_C), vwCl[k]? = some x → u_Kn s x.1 x.2.1 x.2.2 (dC k) (dI k) := by
  have h : ∀ k : Nat, ∃ w : ClassId × (Nat → Nat), k < 13 → u_Kn s (cln k) (kT k) (kNf k) w.1 w.2 := fun k => by
    by_cases hk : k < 13
    · have hin : ∀ w ∈ u_ws (cln k) (kT k) (kNf k), w ∈ lw_tbl := fun w hw => by
        have h1 := List.all_eq_true.mp uw_all k (List.mem_range.mpr hk)
        simp only [Bool.and_eq_true, decide_eq_true_eq] at h1
        exact mem_r _ h1.1 w hw
      obtain ⟨cC, iS, h2⟩ := u_known hts hin (hts _ (nwi_of hk).1)
      exact ⟨(cC, iS), fun _ => h2⟩
    · exact ⟨(0, fun _ => 0), fun h => absurd h hk⟩
  obtain ⟨f, hf⟩ := Classical.axiomOfChoice h
  refine ⟨fun k => (f k).1, fun k => (f k).2, fun k x hx => ?_⟩
  have hk : k < 13 := by
    have h1 := (List.getElem?_eq_some_iff.mp hx).1
    have h2 : vwCl.length = 13 := by decide +kernel
    omega
  rw [vw_of hk] at hx
  cases hx
  exact hf k hk
/-! L3: the entry -/
set_option maxRecDepth 20000 in
theorem dW_0 : decode cL_law 0 = .ok (.new 8, 3) := by decide +kernel
set_option maxRecDepth 20000 in
theorem dW_3 : decode cL_law 3 = .ok (.dup, 1) := by decide +kernel
set_option maxRecDepth 20000 in
theorem dW_4 : decode cL_law 4 = .ok (.invokespecial 15, 3) := by decide +kernel
set_option maxRecDepth 20000 in
theorem dW_7 : decode cL_law 7 = .ok (.astore_n 1, 1) := by decide +kernel
set_option maxRecDepth 20000 in
theorem dW_8 : decode cL_law 8 = .ok (.new 16, 3) := by decide +kernel
set_option maxRecDepth 20000 in
theorem dW_11 : decode cL_law 11 = .ok (.dup, 1) := by decide +kernel
set_option maxRecDepth 20000 in
theorem dW_12 : decode cL_law 12 = .ok (.invokespecial 18, 3) := by decide +kernel
set_option maxRecDepth 20000 in
theorem dW_15 : decode cL_law 15 = .ok (.astore_n 2, 1) := by decide +kernel
set_option maxRecDepth 20000 in
theorem dW_16 : decode cL_law 16 = .ok (.iconst 1, 1) := by decide +kernel
set_option maxRecDepth 20000 in
theorem dW_17 : decode cL_law 17 = .ok (.newarray .long, 2) := by decide +kernel
set_option maxRecDepth 20000 in
theorem dW_19 : decode cL_law 19 = .ok (.astore_n 3, 1) := by decide +kernel
set_option maxRecDepth 20000 in
theorem dW_20 : decode cL_law 20 = .ok (.iconst 0, 1) := by decide +kernel
set_option maxRecDepth 20000 in
theorem dW_21 : decode cL_law 21 = .ok (.istore 4, 2) := by decide +kernel
section LSTART
variable {p : Program} {l : Launch} {e : Env} {s : State} {mid : MethodId} {below : List Frame} {meth : Method} {c : Code} {b L : Nat} {xs : Nat → Int32}
variable {dC : Nat → ClassId} {dI : Nat → Nat → Nat} {cA : Nat → ClassId} {sv : Nat → Nat} {cells slots : Nat} {Q : State → Prop} {ls : Array Slot} {H : Heap} {locs : List Loc}
theorem uwl_in {k : Nat} (hk : k < 13) : ∀ w ∈ u_ws (cln k) (kT k) (kNf k), w ∈ lw_tbl := fun w hw => by
  have h1 := List.all_eq_true.mp uw_all k (List.mem_range.mpr hk)
  simp only [Bool.and_eq_true, decide_eq_true_eq] at h1
  exact mem_r _ h1.1 w hw
theorem l_new (C0 : lw_At p s mid meth c b L xs) (hK : va_K (dC, dI) vwCl (xty cA) s) {q : Nat → Nat} {y : yS} {ci pc idx : Nat} {rest : List Value} (hci : ci < 13) (hlay : lay y.2.2 = (3, ci, kNf ci)) (hn9 : y.2.2 ≤ 999) (hfr : yfr y = true) (hcm : ycm y.2.2 y.2.1 = true) (hq : yG q y.2.2 s.heap.size y.2.2 q) (hP : va_P (dC, dI) vwCl (wdn q cA y.2.2 (ym y)) H) (hS : va_S (fun a => s.heap.size ≤ a) s.heap H locs) (hd : decode cL_law pc = .ok (.new idx, 3)) (hw : Cond.classLink RL idx (cln ci) ∈ lw_tbl) (hc1 : cells + 1 ≤ 601024) (hc2 : slots + kNf ci ≤ 7293033)
    (go : ∀ (q2 : Nat → Nat) (H1 : Heap), yA y.2.2 q q2 → yG q2 (y.2.2 + 1) s.heap.size (y.2.2 + 1) q2 → va_P (dC, dI) vwCl (wdn q2 cA (y.2.2 + 1) (ym y)) H1 → va_S (fun a => s.heap.size ≤ a) s.heap H1 locs → W p l e room_1 s mid #[Value.ref b] below meth c H1 locs (cells + 1) (slots + kNf ci) Q (F0 mid (pc + 3) ls (.ref (q2 y.2.2) :: rest))) : W p l e room_1 s mid #[Value.ref b] below meth c H locs cells slots Q (F0 mid pc ls rest) := by
  obtain ⟨hx, hb, hr, hml, hown, hts, hX, hbl, hlocks, hgv⟩ := C0
  have hown : s.vm.findClass RL = some mid.cls := hown
  have hA : ∀ a, s.heap.size ≤ a → (fun a => s.heap.size ≤ a) a := fun _ h => h
  obtain ⟨w1, w2⟩ := nwi_of hci
  have hD : va_D (fun a => s.heap.size ≤ a) (wdn q cA y.2.2 (ym y)) := wdn_D hq
  unfold yfr at hfr
  simp only [Bool.and_eq_true] at hfr
  refine va_new (D := (dC, dI)) hx hb hts (uwl_in hci) (kty ci) (fun j hj => (ty_of hci hj).1) hown (hts _ hw) (hts _ w1) (hts _ w2) hK hP hD hS hA (vw_of hci) (fs := (List.range (kNf ci)).map (fun f => xq q (fvl (ym y) y.2.2 ci f))) (fun j hj => ?_) hc1 hc2 hd (fun a H1 hP1 hD1 hS1 => ?_)
  · rw [vpV_map hj]
    exact df_of hci hj (yI_fr hfr.1) rfl (yR_fr hfr.2) q
  have e9 := wdn_app (q := q) (cA := cA) (a := a) (e := .inr (ci, (List.range (kNf ci)).map (fun f => xq q (fvl (ym y) y.2.2 ci f)))) hn9 hcm ((en_q (yA_up hn9) hcm _).trans (en_3 hlay))
  have hP2 : va_P (dC, dI) vwCl (wdn (qup q y.2.2 a) cA (y.2.2 + 1) (ym y)) H1 := by rw [← e9]; exact hP1
  have hD2 : va_D (fun a => s.heap.size ≤ a) (wdn (qup q y.2.2 a) cA (y.2.2 + 1) (ym y)) := by rw [← e9]; exact hD1
  have hq2 := yG_of hq (yA_up (a := a) hn9) (Nat.le_succ _) hD2
  have hz := go (qup q y.2.2 a) H1 (yA_up hn9) ⟨Nat.le_refl _, fun _ _ => rfl, hq2.2.2.1, hq2.2.2.2⟩ hP2 hS1
  rw [show qup q y.2.2 a y.2.2 = a from if_pos rfl] at hz
  exact hz
theorem l_init (C0 : lw_At p s mid meth c b L xs) (hK : va_K (dC, dI) vwCl (xty cA) s) (hG : gxP s) {q : Nat → Nat} (hE : xE q sv (fun a => s.heap.size ≤ a) s s.heap) {y y2 : yS} {j a pc idx : Nat} {rest : List Value} {lv : List (Nat × Value)} (c1 : j < 265) (c5 : kst j = false) (c6 : (kY j).name = "<init>") (c7 : krt j = none) (hw : Cond.methodLink RL idx (kY j) ∈ lw_tbl) (e3 : yw 20 j [.ref a] y = some y2) (hn9 : y.2.2 ≤ 999) (hn : knp j = 0) (hq : yG q y.2.2 s.heap.size y.2.2 q) (hP : va_P (dC, dI) vwCl (wdn q cA y.2.2 (ym y)) H) (hS : va_S (fun a => s.heap.size ≤ a) s.heap H locs) (hls : lv_has ls 7 lv) (hd : decode cL_law pc = .ok (.invokespecial idx, 3)) (h2 : (rest.map fun v => v.category).sum ≤ 8) (hc1 : cells + kmc j ≤ 601024) (hc2 : slots + kms j ≤ 7293033)
    (go : ∀ (q2 : Nat → Nat) (H1 : Heap) (locs1 : List Loc), yA y.2.2 q q2 → yG q2 y2.2.2 s.heap.size y2.2.2 q2 → va_P (dC, dI) vwCl (wdn q2 cA y2.2.2 (ym y2)) H1 → va_S (fun a => s.heap.size ≤ a) s.heap H1 locs1 → W p l e room_1 s mid #[Value.ref b] below meth c H1 locs1 (cells + kmc j) (slots + kms j) Q (F0 mid (pc + 3) ls rest)) : W p l e room_1 s mid #[Value.ref b] below meth c H locs cells slots Q (F0 mid pc ls (.ref (q a) :: rest)) := by
  obtain ⟨hx, hb, hr, hml, hown, hts, hX, hbl, hlocks, hgv⟩ := C0
  have hown : s.vm.findClass RL = some mid.cls := hown
  obtain ⟨-, w2, w3⟩ := mw_of (show j < 273 by omega)
  obtain ⟨w4, -⟩ := w2 c5
  have hM := y_met (l := l) (dC := dC) (dI := dI) (cA := cA) (sv := sv) (bs := s.heap.size) 20 j c1 [.ref a] y y2 q e3 hn9
  have hrm : (rmy 20 j).frames + 1 ≤ room_1.frames ∧ 8 + (knl j + 11) + (rmy 20 j).locals ≤ room_1.locals := by
    have := nl_of (show j < 273 by omega)
    show 20 + 1 + 1 ≤ 2048 ∧ 8 + (knl j + 11) + 64 * (20 + 1) ≤ 84000
    omega
  have hpre : PreS s H (va_Pc (([Value.ref a] : List Value).map (xq q)) (yP dC dI cA q sv s.heap.size y)) (.ref (q a) :: ([] : List Value)) := ⟨yP_blind, fun U hU hW => ⟨rfl, by rw [hU]; exact hS.1, by rw [hU]; exact hP, va_K.moved hW.alike hK, hq, gx_warm hW hG, xE_use hE hS (fun _ h => h) hU hW⟩⟩
  have hwj : kW j = Cond.code (kY j) (kB j) (knl j) none :: alW := by unfold kW; rw [c7]
  refine va_callv (va_runI (As := []) (rest := rest) ⟨hx, hb, hml, hown, hts⟩ hM ⟨callB_of (knp j) hts (lw_good (cd_in (show j < 273 by omega))) hwj rfl rfl (hts _ w3) (hts _ hw) (md_of (show j < 273 by omega)) hrm, c6, hts _ w4⟩ hpre rfl (by rw [hn]; rfl) hls.1 rfl (lv_room h2) hd ⟨hc1, hc2⟩) hS (fun a _ h9 => h9) (fun a h9 => h9) (fun q2 t H1 locs1 ht _ hpost hB _ _ hS1 => ?_)
  exact go q2 H1 locs1 hpost.2.1 ⟨Nat.le_refl _, fun _ _ => rfl, hpost.2.2.1, hpost.2.2.2⟩ (by rw [← ht]; exact hB) hS1
set_option maxHeartbeats 4000000 in
theorem w_start (hlt : l.stackTraces = false) (C0 : lw_At p s mid meth c b L xs) (hk : ∀ (dC : Nat → ClassId) (dI : Nat → Nat → Nat) (cA : Nat → ClassId) (q sv : Nat → Nat) (x : xM) (H : Heap) (locs : List Loc) (ls : Array Slot), lCx p l s mid meth c b L xs dC dI cA q sv (q 334) → Inv x → lSt s dC dI cA q (q 334) x H locs → lv_has ls 7 (lvL b q (q 334) 0) → W p l e room_1 s mid #[Value.ref b] below meth c H locs 1000 34000 Q (F0 mid 23 ls [])) : W p l e room_1 s mid #[Value.ref b] below meth c s.heap [] 0 0 Q (entryFrame mid ([Value.ref b] : List Value).toArray 7) := by
  obtain ⟨hx, hb, hr, hml, hown, hts, hX, hbl, hlocks, hgv⟩ := id C0
  have hown : s.vm.findClass RL = some mid.cls := hown
  have hA : ∀ a, s.heap.size ≤ a → (fun a => s.heap.size ≤ a) a := fun _ h => h
  have hG : gxP s := st_gx hts
  obtain ⟨q0, sv, hE0⟩ := st_xE hts hgv
  obtain ⟨dC, dI, hKc⟩ := st_K hts
  obtain ⟨cA, hKa⟩ := st_cA hts
  have hK : va_K (dC, dI) vwCl (xty cA) s := ⟨hKc, hKa⟩
  obtain ⟨y, z, e1, n1, f1, m1, e2, n2, f2, m2, hInv⟩ := ys_ex
  have hl := lv_entry ([.ref b]) (n := 7) (Nat.le_of_ble_eq_true rfl)
  rw [lg_entry_eq]
  generalize (lg_sl ([.ref b]) ++ List.replicate (7 - (lg_sl ([.ref b])).length) Slot.unset).toArray = ls at hl ⊢
  have hl : lv_has ls 7 [(0, .ref b)] := hl
  show W p l e room_1 s mid #[Value.ref b] below meth c s.heap [] 0 0 Q (F0 mid 0 ls [])
  have q00 : yG q0 0 s.heap.size 0 q0 := ⟨Nat.le_refl _, fun _ _ => rfl, fun i j h => absurd h (Nat.not_lt_zero _), fun k h => absurd h (Nat.not_lt_zero _)⟩
  refine l_new (y := ([], [], 0)) (ci := 11) C0 hK (by decide) (by decide +kernel) (by decide) rfl rfl q00 (fun k x hx => absurd hx (by show ¬ ([] : va_W)[k]? = some x; simp)) va_S.rf dW_0 (lwA_in (i := 172) (by decide +kernel)) (by decide) (by decide +kernel) (fun q1 H hA1 hq1 hP hS => ?_)
  have hE1 := xE_q (fun k hk => hA1 k (Or.inr hk)) hE0
  refine lv_dup hx hb dW_3 rfl ?_
  have hq1' : yG q1 1 s.heap.size 1 q1 := hq1
  have hP' : va_P (dC, dI) vwCl (wdn q1 cA 1 (ym ([], [], 1))) H := hP
  refine l_init (y := ([], [], 1)) (y2 := y) (j := 95) (a := 0) C0 hK hG hE1 (by decide) (by decide +kernel) (by decide +kernel) (by decide +kernel) (lwA_in (i := 174) (by decide +kernel)) e1 (by decide) (by decide +kernel) hq1' hP' hS hl dW_4 (by show 1 ≤ 8; decide) (by decide +kernel) (by decide +kernel) (fun q2 H locs hA2 hq2 hP hS => ?_)
  have hE2 := xE_q (fun k hk => hA2 k (Or.inr hk)) hE1
  have hr0 : q1 0 = q2 0 := (hA2 0 (Or.inl (by decide))).symm
  refine lv_astore_n (lv' := [(1, .ref (q1 0)), (0, .ref b)]) hx hb dW_7 rfl hl (by decide) rfl (fun ls hl => ?_)
  rw [hr0] at hl
  refine l_new (y := y) (ci := 12) C0 hK (by decide) (by rw [n1]; decide +kernel) (by omega) f1 (by rw [n1]; exact m1) hq2 hP hS dW_8 (lwA_in (i := 1280) (by decide +kernel)) (by decide +kernel) (by decide +kernel) (fun q3 H hA3 hq3 hP hS => ?_)
  have hE3 := xE_q (fun k hk => hA3 k (Or.inr hk)) hE2
  refine lv_dup hx hb dW_11 rfl ?_
  have hq3' : yG q3 315 s.heap.size 315 q3 := by rw [n1] at hq3; exact hq3
  have hP' : va_P (dC, dI) vwCl (wdn q3 cA 315 (ym (y.1, y.2.1, 315))) H := by rw [n1] at hP; exact hP
  rw [n1]
  refine l_init (y := (y.1, y.2.1, 315)) (y2 := z) (j := 154) (a := 314) C0 hK hG hE3 (by decide) (by decide +kernel) (by decide +kernel) (by decide +kernel) (lwA_in (i := 1282) (by decide +kernel)) e2 (by show 315 ≤ 999; decide) (by decide +kernel) hq3' hP' hS hl dW_12 (by show 1 ≤ 8; decide) (by decide +kernel) (by decide +kernel) (fun q4 H locs hA4 hq4 hP hS => ?_)
  have hE4 := xE_q (fun k hk => hA4 k (Or.inr hk)) hE3
  have hr3 : q3 314 = q4 314 := (hA4 314 (Or.inl (by show 314 < 315; decide))).symm
  have hr4 : q2 0 = q4 0 := by rw [hA4 0 (Or.inl (by show 0 < 315; decide)), hA3 0 (Or.inl (by omega))]
  refine lv_astore_n (lv' := [(2, .ref (q3 314)), (1, .ref (q2 0)), (0, .ref b)]) hx hb dW_15 rfl hl (by decide) rfl (fun ls hl => ?_)
  rw [hr3, hr4] at hl
  refine lv_iconst (v := 1) hx hb dW_16 (by decide) ?_
  have hD4 : va_D (fun a => s.heap.size ≤ a) (wdn q4 cA z.2.2 (ym z)) := wdn_D hq4
  refine va_newa (D := (dC, dI)) (atype := .long) (ty := .long) (a0 := (1, .inr (.inl (fun _ => 0)))) hx hb (hts _ ak_long) rfl hK hP hD4 hS hA (fun _ => rfl) (by decide) rfl (by decide) (by decide +kernel) (by decide +kernel) dW_17 (fun a c9 H hK1 hP1 hD1 hS => ?_)
  obtain rfl := yK_prim (x := 4) hK hK1 rfl (fun _ h => h)
  have hz9 : z.2.2 ≤ 999 := by omega
  have e9 := wdn_app (q := q4) (cA := cA) (a := a) (e := .inl (cA 4, 1, .inr (.inl (fun _ => 0)))) hz9 (by rw [n2]; exact m2) ((en_q (yA_up hz9) (by rw [n2]; exact m2) _).trans ((en_1 (show lay z.2.2 = (1, 4, 1) by rw [n2]; decide +kernel)).trans (by rfl)))
  have hP2 : va_P (dC, dI) vwCl (wdn (qup q4 z.2.2 a) cA (z.2.2 + 1) (ym z)) H := by rw [← e9]; exact hP1
  have hD2 : va_D (fun a => s.heap.size ≤ a) (wdn (qup q4 z.2.2 a) cA (z.2.2 + 1) (ym z)) := by rw [← e9]; exact hD1
  have hq5 := yG_of hq4 (yA_up (a := a) hz9) (Nat.le_succ _) hD2
  have hE5 := xE_q (fun k hk => yA_up (q := q4) (a := a) hz9 k (Or.inr hk)) hE4
  have ha : qup q4 z.2.2 a 334 = a := by rw [n2]; exact if_pos rfl
  have hx0 : qup q4 z.2.2 a 0 = q4 0 := yA_up hz9 0 (Or.inl (by omega))
  have hx3 : qup q4 z.2.2 a 314 = q4 314 := yA_up hz9 314 (Or.inl (by omega))
  rw [n2] at hP2 hq5 hE5 ha hx0 hx3
  generalize hq9 : qup q4 334 a = q at hP2 hq5 hE5 ha hx0 hx3
  refine lv_astore_n (lv' := [(3, .ref a), (2, .ref (q4 314)), (1, .ref (q4 0)), (0, .ref b)]) hx hb dW_19 rfl hl (by decide) rfl (fun ls hl => ?_)
  refine lv_iconst (v := 0) hx hb dW_20 (by decide) ?_
  refine lv_istore (lv' := [(4, .int 0), (3, .ref a), (2, .ref (q4 314)), (1, .ref (q4 0)), (0, .ref b)]) hx hb dW_21 hl (by decide) rfl (fun ls hl => ?_)
  rw [← ha, ← hx0, ← hx3] at hl
  refine W.widen (k := 1000) (n := 34000) (by decide +kernel) (by decide +kernel) ?_
  exact hk dC dI cA q sv (ym z) H locs ls ⟨C0, hK, hG, hE5, hq5.2.2.2, hq5.2.2.1, rfl, hlt⟩ hInv ⟨hP2, hS⟩ (lv_sub hl [4, 3, 2, 1, 0] rfl)
end LSTART
