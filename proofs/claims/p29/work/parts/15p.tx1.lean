/-! L2: the town is read, tx1 -/
def eB (m m' : xM) : Prop := m'.1 314 35 = m.1 314 35 ∧ m'.1 0 16 = m.1 0 16
theorem eB_t {a b c : xM} (h1 : eB a b) (h2 : eB b c) : eB a c := ⟨h2.1.trans h1.1, h2.2.trans h1.2⟩
def oInt (O : List (Option aV × List (Int × Int) × aFs)) : Bool := O.all (fun o => match o.1 with
  | some v => Nat.beq v.1 1
  | none => false)
theorem oInt_ok {O : List (Option aV × List (Int × Int) × aFs)} (h : oInt O = true) {rv : Option Value} (hr : ∃ o ∈ O, rvM rv o.1) : ∃ z : Int32, rv = some (.int z) := by
  obtain ⟨o, ho, hr⟩ := hr
  have h1 := List.all_eq_true.mp h o ho
  split at h1
  · rename_i v e
    rw [e] at hr
    obtain ⟨y, e1, h2⟩ := hr
    obtain ⟨z, e2, -⟩ := aH_int h2 (beqN.mp h1)
    exact ⟨z, by rw [e1, e2]⟩
  · cases h1
theorem cPo_r {c : aCt} {m m' : xM} {vs : List Value} {rv : Option Value} (h : cPo tS tR c m vs rv m') : ∃ o ∈ c.2.2.2.1, rvM rv o.1 := by
  obtain ⟨o, ho, h9, -⟩ := h.2.2
  exact ⟨o, ho, h9⟩
theorem jM_of {F : aFs} {m m' : xM} (h : chkJ F = true) (hI : gI tS tR m) (hF : gF m F) (h1 : ∀ i, i < 48 → m'.1 320 i = m.1 321 i) (h2 : ∀ a i, ¬ a = 320 → m'.1 a i = m.1 a i) : jM m' := by
  unfold chkJ at h
  rw [Bool.and_eq_true] at h
  obtain ⟨g1, g2⟩ := h
  have hs := rd1_ok hI hF 314 26
  refine ⟨fun e he hse => ?_, fun hse => ?_⟩
  · have g3 := List.all_eq_true.mp g1 e (List.mem_range.mpr he)
    rw [h2 314 26 (by decide)] at hse
    rw [Bool.or_eq_true] at g3
    rcases g3 with g3 | g3
    · have := ile_iff.mp g3
      omega
    · simp only [Bool.and_eq_true, ile_iff] at g3
      have a1 := rd1_ok hI hF 321 (4 * e)
      have a2 := rd1_ok hI hF 321 (4 * e + 1)
      have a3 := rd1_ok hI hF 321 (4 * e + 2)
      rw [h1 _ (by omega), h1 _ (by omega), h1 _ (by omega)]
      omega
  · rw [h2 314 26 (by decide)] at hse
    rw [h2 314 27 (by decide), h2 314 25 (by decide)]
    rw [Bool.or_eq_true] at g2
    rcases g2 with g2 | g2
    · have := ile_iff.mp g2
      omega
    · simp only [Bool.and_eq_true, ile_iff] at g2
      have a1 := rd1_ok hI hF 314 27
      have a2 := rd1_ok hI hF 314 25
      omega
theorem gF_eq {F : aFs} {m m' : xM} (h : F.all (fun f => !(Nat.beq f.1 320)) = true) (hF : gF m F) (h2 : ∀ a i, ¬ a = 320 → m'.1 a i = m.1 a i) : gF m' F := fun a i r hr => by
  have h3 := List.all_eq_true.mp h _ (fct_mem hr)
  rw [h2 a i (fun z => by rw [z] at h3; exact absurd h3 (show ¬ (!(Nat.beq 320 320)) = true by decide))]
  exact hF a i r hr
theorem rg_320 (i : Nat) : gseg i (tS 320) = (iLo, iHi) := by
  rw [show tS 320 = [] by decide +kernel]
  rfl
theorem rd_lp {ca : Nat → List Value → xM → (Option Value → xM → Prop) → Prop} {P : Option Value → xM → Prop} {C : Nat} : ∀ j k : Nat, k + j = 48 → ∀ (l : List (Nat × Value)) (m : xM) (f : Nat), lkl 0 l = some (.ref 314) → lkl 3 l = some (.int (nI k)) → gI tS tR m → (∀ i, i < k → m.1 320 i = m.1 321 i) → (∀ (l' : List (Nat × Value)) (m' : xM) (f' : Nat), lkl 0 l' = some (.ref 314) → gI tS tR m' → (∀ i, i < 48 → m'.1 320 i = m.1 321 i) → (∀ a i, ¬ a = 320 → m'.1 a i = m.1 a i) → C ≤ f' → xe 191 ca P f' 256 l' [] m') → 20 * (j + 1) + C ≤ f → xe 191 ca P f 232 l [] m := by
  intro j
  induction j with
  | zero =>
    intro k hk l m f h0 h3 hI he hP hf
    obtain rfl : k = 48 := by omega
    obtain ⟨n, rfl⟩ : ∃ n, f = n + 3 := ⟨f - 3, by omega⟩
    refine s_ild rfl h3 ?_
    refine s_bip rfl ?_
    refine s_icm rfl (fun c => ?_) (fun c => absurd (show (Int8.ofInt 48).toInt32.toInt ≤ (nI 48).toInt by decide) c)
    exact hP l m n h0 hI he (fun a i _ => rfl) (by omega)
  | succ j ih =>
    intro k hk l m f h0 h3 hI he hP hf
    obtain ⟨n, rfl⟩ : ∃ n, f = n + 20 := ⟨f - 20, by omega⟩
    have hR := hI.2
    refine s_ild rfl h3 ?_
    refine s_bip rfl ?_
    refine s_icm rfl (fun c => ?_) (fun c => ?_)
    · have c : (Int8.ofInt 48).toInt32.toInt ≤ (nI k).toInt := c
      rw [nI_toInt (by omega), show (Int8.ofInt 48).toInt32.toInt = 48 by decide] at c
      omega
    refine s_ald rfl h0 ?_
    refine s_gfR (b := 320) rfl rfl rfl rfl (hR 314 19 _ rfl) ?_
    refine s_ild rfl h3 ?_
    refine s_ald rfl h0 ?_
    refine s_gfR (b := 321) rfl rfl rfl rfl (hR 314 20 _ rfl) ?_
    refine s_ild rfl h3 ?_
    refine s_ial (N := 48) rfl rfl (r_vp (by omega) (by decide)) ?_
    refine s_ias (N := 48) rfl rfl (r_vp (by omega) (by decide)) ?_
    refine s_inc rfl (by decide) h3 ?_
    refine s_goto rfl ?_
    rw [nI_clamp (by omega), show Int32.ofInt 1 = nI 1 by decide, r_ad]
    have o1 : k + 1 + j = 48 := by omega
    have o2 : 20 * (j + 1) + C ≤ n := by omega
    have hI' : gI tS tR (mI m 320 k (m.1 321 k)) := gI_m2 hI (by rw [rg_320]; exact i32_rng _)
    refine ih (k + 1) o1 _ _ _ (sv1_ne h0 (by decide) (fun q => by cases q.2)) lkl_h hI' (fun i hi => ?_) (fun l' m' f' g0 g1 g2 g3 g4 => hP l' m' f' g0 g1 (fun i hi => ?_) (fun a i ha => ?_) g4) (by omega)
    · rw [sI_off (a := 320) (b := 321) (fun z => absurd z.1 (by decide))]
      by_cases z : i = k
      · rw [z, sI_on]
      · rw [sI_off (fun q => z q.2)]
        exact he i (by omega)
    · rw [g2 i hi, sI_off (fun z => absurd z.1 (by decide))]
    · rw [g3 a i ha, sI_off (fun z => ha z.1)]
theorem mem_zip_l {α β : Type} {x : α} : ∀ {a : List α} {b : List β}, a.length = b.length → x ∈ a → ∃ y, (x, y) ∈ List.zip a b
  | [], _, _, h => by cases h
  | _ :: _, [], h, _ => by cases h
  | p :: a, q :: b, h, hx => by
    rcases List.mem_cons.mp hx with e | e
    · exact ⟨q, by rw [e]; exact List.mem_cons_self⟩
    · obtain ⟨y, hy⟩ := mem_zip_l (Nat.succ.inj h) e
      exact ⟨y, List.mem_cons_of_mem _ hy⟩
theorem gL_03 {s0 : Nat → Int} {l : List (Nat × Value)} (h : gL s0 l [(0, aR [314]), (3, aI 0 0)]) : lkl 0 l = some (.ref 314) ∧ lkl 3 l = some (.int (nI 0)) := by
  obtain ⟨x, e, h1⟩ := h 0 (aR [314]) lkA_h
  obtain ⟨b, rfl, hb⟩ := aH_ref h1 rfl
  obtain ⟨y, e2, h2⟩ := h 3 (aI 0 0) (by rw [lkA_t (by decide)]; exact lkA_h)
  obtain ⟨z, rfl, hz, -⟩ := aH_int h2 rfl
  have hz : (0 : Int) ≤ z.toInt ∧ z.toInt ≤ 0 := hz
  obtain rfl : b = 314 := List.mem_singleton.mp hb
  obtain rfl : z = nI 0 := Int32.toInt_inj.mp (by rw [nI_toInt (by omega)]; omega)
  exact ⟨e, e2⟩
theorem rankU {J : xM → Prop} {tS : Nat → List (Nat × Int × Int)} {tR : Nat → Nat → Option Nat} {T : List aCt} {c : aCt} {D fu : Nat} {sp : List (Nat × Nat)} {N : List aNd} (hW : (N ++ []).all wfN = true) (h : N.all (chkR tS tR fu T c sp (N ++ [])) = true) : ∃ K, ∀ (d : Nat) (m0 : xM) (vs : List Value) (P : Option Value → xM → Prop), (∀ c ∈ T, vC tS tR J D c) → D ≤ d → (∀ m, gM m0 c.2.2.2.2 m → J m) → aMt vs c.2.1 → (∀ rv m', cPo tS tR c m0 vs rv m' → P rv m') → ∀ x ∈ N, nOk tS tR m0 c d P K x := by
  have hW2 : ∀ x ∈ N ++ [], wfN x = true := fun x hx => List.all_eq_true.mp hW x hx
  obtain ⟨B, hB⟩ := muN_b (N := N) (fun nd hn => hW2 nd (List.mem_append.mpr (Or.inl hn)))
  refine ⟨0 + (B + 1) * fu, fun d m0 vs P hT hd hJ hv hP x hx l m hg f hf => ?_⟩
  exact rankX0 (sp := sp) (X := []) (K := 0) hT hd hJ hv hP hW2 (fun y hy => by cases hy) (fun y hy => List.all_eq_true.mp h y hy) B x hx l m hg (hB x hx l) f hf
theorem stepU {J : xM → Prop} {tS : Nat → List (Nat × Int × Int)} {tR : Nat → Nat → Option Nat} {m0 : xM} {T : List aCt} {c : aCt} {D d fu K : Nat} {sp : List (Nat × Nat)} (hT : ∀ c ∈ T, vC tS tR J D c) (hd : D ≤ d) (hJ : ∀ m, gM m0 c.2.2.2.2 m → J m) {vs : List Value} (hv : aMt vs c.2.1) {P : Option Value → xM → Prop} (hP : ∀ rv m', cPo tS tR c m0 vs rv m' → P rv m') {Y : List aNd} {nd : aNd} (hW : ∀ x ∈ Y, wfN x = true) (hY : ∀ x ∈ Y, nOk tS tR m0 c d P K x) (h : chkX tS tR fu T c sp Y nd = true) : nOk tS tR m0 c d P (fu + K) nd := by
  intro l m hg f hf
  unfold chkX at h
  exact wkA_ok (m0 := m0) (base := K) (s0 := xv l) hT hd hJ hW cur_nil (fun nd' hn' l' m' hg' _ f' hf' => hY nd' hn' l' m' hg' f' hf') (retA_ok (fun z => by cases z) hv hP) fu f true nd.1 (tagL nd.2.1) [] _ l [] m h hf hg.1 hg.2.1 (gL_tagL hg.2.2.1) trivial hg.2.2.2
/-- the rest behind the roads, with p walkers -/
theorem z_K : ∀ p, p < 4 → ∃ K, ∀ (d : Nat) (m : xM) (vs : List Value) (P : Option Value → xM → Prop), jM m → aMt vs t3c.2.1 → (∀ rv m', cPo tS tR t3c m vs rv m' → P rv m') → ∃ c, nOk tS tR m t3c d P K (256, [(0, aR [314])], zF (p + 1), c, []) := by
  intro p hp
  match p, hp with
  | 0, _ =>
    have h := z1n
    rw [Bool.and_eq_true] at h
    obtain ⟨K, hK⟩ := rankU (J := jM) (D := 0) h.1 h.2
    exact ⟨K, fun d m vs P hj hv hP => ⟨235, hK d m vs P fa_nil (Nat.zero_le _) (fun m' h => jM_st (c := t3c) (by decide) m m' h hj) hv hP _ List.mem_cons_self⟩⟩
  | 1, _ =>
    have h := z2n
    rw [Bool.and_eq_true] at h
    obtain ⟨K, hK⟩ := rankU (J := jM) (D := 0) h.1 h.2
    exact ⟨K, fun d m vs P hj hv hP => ⟨237, hK d m vs P fa_nil (Nat.zero_le _) (fun m' h => jM_st (c := t3c) (by decide) m m' h hj) hv hP _ List.mem_cons_self⟩⟩
  | 2, _ =>
    have h := z3n
    rw [Bool.and_eq_true] at h
    obtain ⟨K, hK⟩ := rankU (J := jM) (D := 0) h.1 h.2
    exact ⟨K, fun d m vs P hj hv hP => ⟨239, hK d m vs P fa_nil (Nat.zero_le _) (fun m' h => jM_st (c := t3c) (by decide) m m' h hj) hv hP _ List.mem_cons_self⟩⟩
  | 3, _ =>
    have h := z4n
    rw [Bool.and_eq_true] at h
    obtain ⟨K, hK⟩ := rankU (J := jM) (D := 0) h.1 h.2
    exact ⟨K, fun d m vs P hj hv hP => ⟨241, hK d m vs P fa_nil (Nat.zero_le _) (fun m' h => jM_st (c := t3c) (by decide) m m' h hj) hv hP _ List.mem_cons_self⟩⟩
  | p + 4, h => exact absurd h (by omega)
theorem vs_x {x : Int32} {lo hi : Int} (h : lo ≤ x.toInt ∧ x.toInt ≤ hi) : aMt [.ref 314, .int x] [aR [314], aI lo hi] := ⟨Or.inl ⟨rfl, _, rfl, List.mem_cons_self⟩, Or.inr (Or.inl ⟨rfl, _, rfl, h, trivial⟩), trivial⟩
theorem tx0 {d : Nat} (hd : 821 ≤ d) {m : xM} (hI : gI tS tR m) (hj : jM m) {x : Int32} (hx : x.toInt = 0) {P : Option Value → xM → Prop} (hP : ∀ rv m', (∃ z : Int32, rv = some (.int z)) → gI tS tR m' → jM m' → eB m m' → P rv m') : xw d 191 [.ref 314, .int x] m P := by
  have hv : aMt [.ref 314, .int x] [aR [314], aI 0 0] := vs_x (by omega)
  have hst := jM_st (c := t0c) (by decide)
  obtain ⟨d, rfl⟩ : ∃ e, d = e + 1 := ⟨d - 1, by omega⟩
  have he := t0e
  simp only [Bool.and_eq_true] at he
  obtain ⟨e1, e2, e3⟩ := he
  have hP1 : ∀ rv m', cPo tS tR t0c m [.ref 314, .int x] rv m' → P rv m' := fun rv m' hp => hP rv m' (oInt_ok (O := t0c.2.2.2.1) (by decide +kernel) (cPo_r hp)) hp.1 (hst m m' hp.2.1 hj) ⟨hp.2.1 314 35 (by decide), hp.2.1 0 16 (by decide)⟩
  have hX : ∀ q ∈ t0V ++ t0X, nE tS tR m t0c d P q := by
    intro q hq
    rcases List.mem_append.mp hq with hq | hq
    · exact nE_vac (List.all_eq_true.mp t0v q hq)
    obtain ⟨y, hy⟩ := mem_zip_l t0l hq
    have hk := List.all_eq_true.mp t0y _ hy
    unfold yOk at hk
    simp only [Bool.and_eq_true, beqN] at hk
    obtain ⟨k0, k1, k2, k3, k4, k5, k6⟩ := hk
    obtain ⟨p, hp, k5⟩ := List.any_eq_true.mp k5
    have hp := List.mem_range.mp hp
    obtain ⟨Kp, hKp⟩ := z_K p hp
    have hY : ∀ m1 : xM, eB m m1 → nOk tS tR m1 t2c d P (20 * 49 + Kp) y := by
      intro m1 hb1 l2 m2 hg2 f2 hf2
      have hl := gL_03 (s0 := fun _ => 0) (l := l2) (lLe_ok hg2.2.2.1 k6)
      rw [k1]
      refine rd_lp (C := Kp) 48 0 (by omega) l2 m2 f2 hl.1 hl.2 hg2.1 (fun i hi => absurd hi (Nat.not_lt_zero i)) (fun l' m3 f3 g0 g1 g2 g3 g4 => ?_) (by omega)
      have hb2 : eB m1 m2 := ⟨hg2.2.1 314 35 (by decide), hg2.2.1 0 16 (by decide)⟩
      have hb3 : eB m2 m3 := ⟨g3 314 35 (by decide), g3 0 16 (by decide)⟩
      have hj3 : jM m3 := jM_of k4 hg2.1 hg2.2.2.2 g2 g3
      obtain ⟨c9, h9⟩ := hKp d m3 [.ref 314, .int x] P hj3 hv (fun rv m' hp => hP rv m' (oInt_ok (O := t3c.2.2.2.1) (by decide +kernel) (cPo_r hp)) hp.1 (jM_st (c := t3c) (by decide) m3 m' hp.2.1 hj3) (eB_t (eB_t (eB_t hb1 hb2) hb3) ⟨hp.2.1 314 35 (by decide), hp.2.1 0 16 (by decide)⟩))
      exact h9 l' m3 ⟨g1, fun a i _ => rfl, gL_M g0, gF_eq (zF_320 p hp) (fLe_ok hg2.1 hg2.2.2.2 k5) g3⟩ f3 g4
    refine ⟨24 + (20 * 49 + Kp), fun l m1 hg f hf => ?_⟩
    exact stepU (J := jT) (D := 0) (T := []) (m0 := m1) fa_nil (Nat.zero_le _) (fun _ _ => trivial) hv (fun rv m' hp => by obtain ⟨_, _, o, ho, _⟩ := hp; cases ho) (fa_cons k2 fa_nil) (fa_cons (hY m1 ⟨hg.2.1 314 35 (by decide), hg.2.1 0 16 (by decide)⟩) fa_nil) k3 l m1 ⟨hg.1, fun a i _ => rfl, hg.2.2.1, hg.2.2.2⟩ f hf
  obtain ⟨K, hK⟩ := nE_all hX
  unfold chkC0 at e1
  simp only [Bool.and_eq_true, beqN, bleN, bltN] at e1
  refine ⟨e1.2.1, e1.2.2.1, by rw [sl_len hv]; exact e1.2.2.2, 40 + K, ?_⟩
  exact wkA_ok (m0 := m) (base := K) (s0 := xv (lv_args 0 [.ref 314, .int x])) t0h (show 820 ≤ d by omega) (fun m' h => hst m m' h hj) (fun q hq => List.all_eq_true.mp e2 q hq) (fun q hq => by cases hq) (fun nd hn' l' m' hg' _ f' hf' => hK nd hn' l' m' hg' f' hf') (retA_ok (fun _ => rfl) hv hP1) 40 _ false 0 _ [] _ _ [] m e3 (Nat.le_refl _) hI (fun a i _ => rfl) (gL_tagL (gL_argL hv (posP_0 _))) trivial gF_nil
theorem text_ok {d : Nat} (hd : 821 ≤ d) {m : xM} (hI : gI tS tR m) (hj : jM m) {x : Int32} {P : Option Value → xM → Prop} (hP : ∀ rv m', (∃ z : Int32, rv = some (.int z)) → gI tS tR m' → jM m' → eB m m' → P rv m') : xw d 191 [.ref 314, .int x] m P := by
  have g := i32_rng x
  have key : ∀ {lo hi : Int} {md : List (Nat × Nat × Nat)} {O : List (Option aV × List (Int × Int) × aFs)} {D : Nat}, D ≤ d → vC tS tR jM D (191, [aR [314], aI lo hi], [], O, md) → jmB (0, [], [], [], md) = true → (wm1 md 314 35 = false ∧ wm1 md 0 16 = false) → oInt O = true → lo ≤ x.toInt ∧ x.toInt ≤ hi → xw d 191 [.ref 314, .int x] m P := fun {lo hi md O D} h1 hc h2 h3 hO h4 => hc d h1 m _ P hI hj (vs_x h4) gF_nil (fun rv m' hp => hP rv m' (oInt_ok hO (cPo_r hp)) hp.1 (jM_st (c := (0, [], [], [], md)) h2 m m' hp.2.1 hj) ⟨hp.2.1 314 35 h3.1, hp.2.1 0 16 h3.2⟩)
  by_cases h0 : x.toInt = 0
  · exact tx0 hd hI hj h0 hP
  by_cases h1 : x.toInt = 1
  · exact key (by omega) ux3 (by decide) (by decide) (by decide +kernel) (by omega)
  by_cases h2 : x.toInt = 2
  · exact key (by omega) ux5 (by decide) (by decide) (by decide +kernel) (by omega)
  by_cases h3 : x.toInt < 0
  · exact key (by omega) ux6 (by decide) (by decide) (by decide +kernel) ⟨g.1, by omega⟩
  · exact key (by omega) ux7 (by decide) (by decide) (by decide +kernel) ⟨by omega, g.2⟩

