/-! L2: the parser of the reference, var -/
def tRA (a i : Nat) : Option Nat := bif Nat.beq a 314 && Nat.beq i 5 then some 315 else tR a i
def tRB (a i : Nat) : Option Nat := bif Nat.beq a 314 && Nat.beq i 5 then some 316 else tR a i

/-! L2: the text is set, and then the rest of a method -/
def tRx (b a i : Nat) : Option Nat := bif Nat.beq a 314 && Nat.beq i 5 then some b else tR a i
theorem tRA_eq : tRA = tRx 315 := rfl
theorem tRB_eq : tRB = tRx 316 := rfl
def stM (m : xM) (b : Nat) (f n : Int32) : xM := mI (mI (mI (mI (mR m 314 5 (some b)) 314 8 f) 314 9 n) 314 10 (Int32.ofInt 0)) 314 11 (Int32.ofInt (-1))
theorem sI_on {m : xM} {a i : Nat} {v : Int32} : (mI m a i v).1 a i = v := u2_on
theorem sI_off {m : xM} {a i b j : Nat} {v : Int32} (h : ¬ (b = a ∧ j = i)) : (mI m a i v).1 b j = m.1 b j := u2_off h
theorem gI_m2 {tS : Nat → List (Nat × Int × Int)} {tR : Nat → Nat → Option Nat} {m : xM} {a i : Nat} {v : Int32} (hI : gI tS tR m) (hv : (gseg i (tS a)).1 ≤ v.toInt ∧ v.toInt ≤ (gseg i (tS a)).2) : gI tS tR (mI m a i v) := gI_w (a := a) (i := i) hI rfl (fun b j h => sI_off h) (by rw [sI_on]; exact hv)
theorem tR_5 : tR 314 5 = none := by decide +kernel
theorem gI_up {m : xM} {b : Nat} (hI : gI tS tR m) : gI tS (tRx b) (mR m 314 5 (some b)) := by
  refine ⟨hI.1, fun a i x h => ?_⟩
  by_cases z : a = 314 ∧ i = 5
  · obtain ⟨rfl, rfl⟩ := z
    have h : some b = some x := h
    rw [← h]
    show u2 m.2.2 314 5 (some b) 314 5 = some b
    simp [u2]
  · have e : (Nat.beq a 314 && Nat.beq i 5) = false := by
      cases e : (Nat.beq a 314 && Nat.beq i 5) with
      | false => rfl
      | true =>
        simp only [Bool.and_eq_true, beqN] at e
        exact absurd e z
    unfold tRx at h
    rw [e] at h
    have h1 := hI.2 a i x h
    show u2 m.2.2 314 5 (some b) a i = some x
    rw [← h1]
    unfold u2
    by_cases z1 : a = 314
    · by_cases z2 : i = 5
      · exact absurd ⟨z1, z2⟩ z
      · rw [if_pos z1, if_neg z2]
    · rw [if_neg z1]
theorem gI_dn {m : xM} {b : Nat} (hI : gI tS (tRx b) m) : gI tS tR m := by
  refine ⟨hI.1, fun a i x h => hI.2 a i x ?_⟩
  unfold tRx
  cases e : (Nat.beq a 314 && Nat.beq i 5) with
  | false => exact h
  | true =>
    simp only [Bool.and_eq_true, beqN] at e
    rw [e.1, e.2, tR_5] at h
    cases h
theorem st_rng : gseg 8 (tS 314) = (0, 720) ∧ gseg 9 (tS 314) = (0, 240) ∧ gseg 10 (tS 314) = (0, 241) ∧ gseg 11 (tS 314) = (-1, 241) := by decide +kernel
theorem gI_st {m : xM} {b : Nat} {f n : Int32} (hI : gI tS tR m) (hf : 0 ≤ f.toInt ∧ f.toInt ≤ 720) (hn : 0 ≤ n.toInt ∧ n.toInt ≤ 240) : gI tS (tRx b) (stM m b f n) := by
  obtain ⟨r1, r2, r3, r4⟩ := st_rng
  refine gI_m2 (gI_m2 (gI_m2 (gI_m2 (gI_up hI) (by rw [r1]; exact hf)) (by rw [r2]; exact hn)) (by rw [r3]; decide)) (by rw [r4]; decide)
theorem st_off {m : xM} {b a i : Nat} {f n : Int32} (h : ¬ (a = 314 ∧ 8 ≤ i ∧ i < 12)) : (stM m b f n).1 a i = m.1 a i := by
  unfold stM
  rw [sI_off (fun z => h ⟨z.1, by omega, by omega⟩), sI_off (fun z => h ⟨z.1, by omega, by omega⟩), sI_off (fun z => h ⟨z.1, by omega, by omega⟩), sI_off (fun z => h ⟨z.1, by omega, by omega⟩)]
  rfl
theorem st_8 {m : xM} {b : Nat} {f n : Int32} : (stM m b f n).1 314 8 = f := by
  unfold stM
  rw [sI_off (by decide), sI_off (by decide), sI_off (by decide), sI_on]
theorem st_10 {m : xM} {b : Nat} {f n : Int32} : (stM m b f n).1 314 10 = 0 := by
  unfold stM
  rw [sI_off (by decide), sI_on]
  rfl
theorem st_11 {m : xM} {b : Nat} {f n : Int32} : (stM m b f n).1 314 11 = -1 := by
  unfold stM
  rw [sI_on]
  rfl
theorem starts_ok {d : Nat} {m : xM} {b : Nat} {f n : Int32} {P : Option Value → xM → Prop} (h : P none (stM m b f n)) : xw (d + 1) 177 [.ref 314, .ref b, .int f, .int n] m P := by
  show kmc 177 = 0 ∧ kms 177 = 0 ∧ (lg_sl _).length ≤ knl 177 ∧ ∃ n', xe 177 (xw d) P n' 0 (lv_args 0 _) [] m
  refine ⟨by decide +kernel, by decide +kernel, (by show 4 ≤ 4; decide), 17, ?_⟩
  refine s_ald rfl rfl ?_
  refine s_ald rfl rfl ?_
  refine s_pfR rfl rfl rfl rfl rfl ?_
  refine s_ald rfl rfl ?_
  refine s_ild rfl rfl ?_
  refine s_pfI rfl rfl rfl rfl rfl ?_
  refine s_ald rfl rfl ?_
  refine s_ild rfl rfl ?_
  refine s_pfI rfl rfl rfl rfl rfl ?_
  refine s_ald rfl rfl ?_
  refine s_con rfl ?_
  refine s_pfI rfl rfl rfl rfl rfl ?_
  refine s_ald rfl rfl ?_
  refine s_con rfl ?_
  refine s_pfI rfl rfl rfl rfl rfl ?_
  refine s_rv rfl rfl ?_
  exact h
theorem wm1_st {md : List (Nat × Nat × Nat)} {a i : Nat} (h : md.any (fun q => Nat.beq q.1 314 && (Nat.ble q.2.1 8 && Nat.ble 12 q.2.2)) = true) (hw : wm1 md a i = false) : ¬ (a = 314 ∧ 8 ≤ i ∧ i < 12) := by
  rintro ⟨rfl, h1, h2⟩
  obtain ⟨q, hq, h3⟩ := List.any_eq_true.mp h
  simp only [Bool.and_eq_true, beqN, bleN] at h3
  have : wm1 md 314 i = true := List.any_eq_true.mpr ⟨q, hq, by simp only [Bool.and_eq_true, beqN, bleN, bltN]; omega⟩
  rw [this] at hw
  cases hw
/-- the rest of a method, behind starts: nodes N over X; the node nd is where it begins -/
theorem rest_ok {b k : Nat} {as : List aV} {F : aFs} {O : List (Option aV × List (Int × Int) × aFs)} {md : List (Nat × Nat × Nat)} {N X : List aNd} {T : List aCt} {D fu : Nat} {sp : List (Nat × Nat)} {nd : aNd} (hT : ∀ c ∈ T, vC tS (tRx b) jM D c) (hmd : md.any (fun q => Nat.beq q.1 314 && (Nat.ble q.2.1 8 && Nat.ble 12 q.2.2)) = true) (hjm : jmB (0, [], [], [], md) = true) (hX : ∀ d, D ≤ d → ∀ m0 vs P, jM m0 → aMt vs as → (∀ rv m', cPo tS (tRx b) (k, as, F, O, md) m0 vs rv m' → P rv m') → ∀ x ∈ X, nE tS (tRx b) m0 (k, as, F, O, md) d P x) (hW : (N ++ X).all wfN = true) (hN : N.all (chkR tS (tRx b) fu T (k, as, F, O, md) sp (N ++ X)) = true) (hnd : nd ∈ N) {d : Nat} (hd : D ≤ d) {m : xM} {vs : List Value} {P : Option Value → xM → Prop} {f n : Int32} (hI : gI tS tR m) (hj : jM m) (hv : aMt vs as) (hf : 0 ≤ f.toInt ∧ f.toInt ≤ 720) (hn : 0 ≤ n.toInt ∧ n.toInt ≤ 240) (hF : gF (stM m b f n) nd.2.2.1) (hP : ∀ rv m', cPo tS tR (k, as, F, O, md) m vs rv m' → P rv m') : ∃ K, ∀ g, K ≤ g → ∀ l, gL (fun _ => 0) l nd.2.1 → xe k (xw d) P g nd.1 l [] (stM m b f n) := by
  have hI2 : gI tS (tRx b) (stM m b f n) := gI_st hI hf hn
  have hst := jM_st (c := (0, [], [], [], md)) hjm
  have hm : gM m md (stM m b f n) := fun a i hw => st_off (wm1_st hmd hw)
  have hj2 : jM (stM m b f n) := hst m _ hm hj
  have hP2 : ∀ rv m', cPo tS (tRx b) (k, as, F, O, md) (stM m b f n) vs rv m' → P rv m' := fun rv m' hp => hP rv m' ⟨gI_dn hp.1, fun a i hw => by rw [hp.2.1 a i hw, hm a i hw], hp.2.2⟩
  have hY := rankX (c := (k, as, F, O, md)) (fu := fu) (sp := sp) (m0 := stM m b f n) hT hd (fun m' h => hst _ m' h hj2) hv hP2 (fun x hx => List.all_eq_true.mp hW x hx) (hX d hd _ vs P hj2 hv hP2) (fun x hx => List.all_eq_true.mp hN x hx) nd (List.mem_append.mpr (Or.inl hnd))
  obtain ⟨K, hK⟩ := hY
  exact ⟨K, fun g hg l hl => hK l _ ⟨hI2, fun a i _ => rfl, hl, hF⟩ g hg⟩
theorem gL_M {s0 : Nat → Int} {l : List (Nat × Value)} (h : lkl 0 l = some (.ref 314)) : gL s0 l [(0, aR [314])] := by
  intro j v hv
  by_cases e : 0 = j
  · subst e
    rw [lkA_h] at hv
    cases hv
    exact ⟨_, h, Or.inl ⟨rfl, 314, rfl, List.mem_cons_self⟩⟩
  · rw [lkA_t e] at hv
    cases hv

