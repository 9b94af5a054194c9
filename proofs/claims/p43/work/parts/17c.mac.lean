/-! L3: the law: what holds throughout, calls -/
def lCx (p : Program) (l : Launch) (s : State) (m : MethodId) (meth : Method) (c : Code) (b L : Nat) (xs : Nat → Int32) (dC : Nat → ClassId) (dI : Nat → Nat → Nat) (cA : Nat → ClassId) (q sv : Nat → Nat) (qo : Nat) : Prop :=
  lw_At p s m meth c b L xs ∧ va_K (dC, dI) vwCl (xty cA) s ∧ gxP s ∧ xE q sv (fun a => s.heap.size ≤ a) s s.heap ∧ (∀ i, i < 335 → s.heap.size ≤ q i) ∧ (∀ i j, i < 335 → j < 335 → q i = q j → i = j) ∧ qo = q 334 ∧ l.stackTraces = false
def lSt (s : State) (dC : Nat → ClassId) (dI : Nat → Nat → Nat) (cA : Nat → ClassId) (q : Nat → Nat) (qo : Nat) (x : xM) (H : Heap) (locs : List Loc) : Prop :=
  va_P (dC, dI) vwCl (wd q cA x) H ∧ va_S (fun a => s.heap.size ≤ a) s.heap H locs
section MAC
variable {p : Program} {l : Launch} {e : Env} {s : State} {mid : MethodId} {below : List Frame} {meth : Method} {c : Code} {b L : Nat} {xs : Nat → Int32}
variable {dC : Nat → ClassId} {dI : Nat → Nat → Nat} {cA : Nat → ClassId} {q sv : Nat → Nat} {qo : Nat} {cells slots : Nat} {Q : State → Prop} {ls : Array Slot} {H : Heap} {locs : List Loc}
theorem x_call2 {R : Room} {args : Array Value} {pc : Nat} {rest st0 : List Value} {a : Array Value} {A0 A1 : Nat → Prop} {H0 : Heap} {mc ms : Nat} {free : Addr → Prop} {post : Option Value → xM → Prop} {B : xM → State → Prop} (hr : va_Run p l e R s mid args below meth c H locs cells slots mc ms (F0 mid pc ls st0) rest (xQ q post B A1 a) free) (hS : va_S A0 H0 H locs) (hA : ∀ q, q < H.size → A1 q → A0 q) (hf : ∀ q, free q → A0 q)
    (kk : ∀ (r : Option Value) (u : xM) (t : State) (H1 : Heap) (locs1 : List Loc), t.heap = H1 → s.vm.Alike t.vm → post r u → B u t → H.size ≤ H1.size → (∀ z, z < H.size → ¬ A1 z → H1[z]? = H[z]?) → va_S A0 H0 H1 locs1 → W p l e R s mid args below meth c H1 locs1 (cells + mc) (slots + ms) Q (F0 mid (pc + 3) ls ((r.map (xq q)).toList ++ rest))) : W p l e R s mid args below meth c H locs cells slots Q (F0 mid pc ls st0) := by
  intro T hT X
  obtain ⟨v, st₀, t, T', L, h0, X', hL, e1, e2, ⟨⟨r, u, hv, hp, hb⟩, hz, hk⟩, st⟩ := hr T hT X
  cases hv
  rw [h0] at hz hk
  obtain ⟨t2, a1, b1⟩ := kk r u t T'.heap (locs ++ L) e1.symm (by rw [← e2]; exact X'.warmed.alike) hp hb (by rw [e1]; exact hz) (fun z h1 h2 => by rw [e1]; exact hk z h1 h2)
    ⟨Nat.le_trans hS.1 (by rw [e1]; exact hz), fun q h1 h2 => by rw [e1, hk q (Nat.lt_of_lt_of_le h1 hS.1) (fun z => h2 (hA q (Nat.lt_of_lt_of_le h1 hS.1) z))]; exact hS.2.1 q h1 h2, fun q hq => by
      rcases List.mem_append.mp hq with h | h
      · exact hS.2.2 q h
      · exact hf _ (hL q h)⟩ T' rfl X'
  exact ⟨t2, st t2 a1, b1⟩
theorem lw_good {j : Nat} (h : Cond.code (kY j) (kB j) (knl j) (krt j) ∈ lw_tbl) : GoodIn lw_tbl (kW j) := by
  intro w hw
  rcases List.mem_cons.mp hw with e | hw
  · rw [e]
    exact ⟨h, Or.inl rfl⟩
  · exact ⟨(List.mem_filter.mp hw).1, good_of_word (good_al hw)⟩
/-- a call of the method j at the cell a -/
theorem l_call (C : lCx p l s mid meth c b L xs dC dI cA q sv qo) {j a pc idx d : Nat} {as rest : List Value} {x : xM} {post : Option Value → xM → Prop} {lv : List (Nat × Value)} (hd : decode cL_law pc = .ok (.invokevirtual idx, 3)) (c1 : j < 273) (hw : Cond.methodLink RL idx (kY j) ∈ lw_tbl) (h5 : kst j = false) (h6 : (mwL.getD j (false, 0, 0, 0)).2.2.1 ≠ 9999) (c7 : (kY j).cls = cln (kcl j)) (c8 : kcl j < 13) (h1 : lay a = (3, kcl j, kNf (kcl j))) (hn : as.length = knp j) (h2 : (rest.map fun v => v.category).sum ≤ 8) (hd2 : d ≤ 1200) (h : xw d j (.ref a :: as) x post) (hls : lv_has ls 7 lv) (hst : lSt s dC dI cA q qo x H locs)
    (kk : ∀ (rv : Option Value) (x' : xM) (H1 : Heap) (locs1 : List Loc), post rv x' → lSt s dC dI cA q qo x' H1 locs1 → W p l e room_1 s mid #[Value.ref b] below meth c H1 locs1 cells slots Q (F0 mid (pc + 3) ls ((rv.map (xq q)).toList ++ rest))) (hcs : cells ≤ 601024 ∧ slots ≤ 7293033) : W p l e room_1 s mid #[Value.ref b] below meth c H locs cells slots Q (F0 mid pc ls ((as.map (xq q)).reverse ++ .ref (q a) :: rest)) := by
  obtain ⟨⟨hx, hb, hr, hml, hown, hts, hX, hbl, hlocks, hgv⟩, hK, hG, hE, hqA, hqi, hqo, hlt⟩ := C
  obtain ⟨hP, hS⟩ := hst
  obtain ⟨-, w2, w3⟩ := mw_of c1
  obtain ⟨w4, w5⟩ := w2 h5
  have hb9 : a < 335 := lay_lt h1 (by decide)
  have he : (wd q cA x)[a]? = some (q a, .inr (kcl j, (List.range (kNf (kcl j))).map (fun f => xq q (fvl x a (kcl j) f)))) := by rw [wd_at hb9, en_3 h1]
  have hM := x_met (l := l) (dC := dC) (dI := dI) (cA := cA) (q := q) (sv := sv) d j c1 _ _ _ H.size h
  have hrm : (rmd d).frames + 1 ≤ room_1.frames ∧ 8 + (knl j + 11) + (rmd d).locals ≤ room_1.locals := by
    have := nl_of c1
    simp only [rmd, room_1]
    omega
  have hA : ∀ a, s.heap.size ≤ a → (fun a => s.heap.size ≤ a) a := fun _ h => h
  have hf : ∀ a, xA q H.size a → (fun a => s.heap.size ≤ a) a := x_free hqA hS hA
  have hpre : PreV s H (cln (kcl j)) (q a) (va_Pc (((Value.ref a) :: as).map (xq q)) (xP dC dI cA q sv x H.size)) (as.map (xq q)) := ⟨xP_blind, va_recv hK hP (vw_of c8) he, fun U hU hW => ⟨rfl, xP_use hU hW hP hK hqi hG hS hf hE⟩⟩
  have hrest : 2 * (F0 mid pc ls ((as.map (xq q)).reverse ++ .ref (q a) :: rest)).monitorRoom + (rest.map fun v => v.category).sum ≤ 8 := lv_room h2
  have hts' : ∀ w ∈ lw_tbl, w.before #[Value.ref b] s = true := hts
  refine x_call2 (va_runV (As := as.map (xq q)) (rest := rest) (C := cln (kcl j)) ⟨hx, hb, hml, hown, hts⟩ hM ⟨callB_of (knp j) hts (lw_good (cd_in c1)) rfl rfl rfl (hts _ w3) (hts _ hw) (md_of c1) hrm, hts _ w4, ?_⟩ hpre rfl (by rw [List.length_map]; exact hn) hls.1 rfl hrest hd ⟨by show cells + 0 ≤ 601024; omega, by show slots + 0 ≤ 7293033; omega⟩) hS (fun a _ h9 => hf a h9) hf (fun rv u t H1 locs1 ht _ hp hB hz hkp hS1 => ?_)
  · rw [← c7]
    exact hts _ (w5 h6)
  · have hP1 : va_P (dC, dI) vwCl (wd q cA u) H1 := by rw [← ht]; exact hB
    exact kk rv u H1 locs1 hp ⟨hP1, hS1⟩
end MAC
