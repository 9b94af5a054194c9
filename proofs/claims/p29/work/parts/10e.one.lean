/-! facts of the constants' words, of switches, of rows of rows -/
theorem ld_mem {c i : Nat} {v : Value} (h : kLd c i = some v) : (∃ a, v = .ref a) ∨ (∃ w, w ∈ lw_tbl ∧ w = ldw c (i, v, 0)) := by
  unfold kLd at h
  by_cases hc : c < 16
  · obtain ⟨e, he, hce⟩ := Option.map_eq_some_iff.mp h
    obtain ⟨v', ps⟩ := e
    have hce : v' = v := hce
    subst hce
    have h1 := List.all_eq_true.mp (List.all_eq_true.mp ld_all c (List.mem_range.mpr hc)) _ (lku_in he)
    simp only [Bool.or_eq_true, decide_eq_true_eq] at h1
    rcases h1 with h1 | h1
    · left
      cases v' <;> first | exact ⟨_, rfl⟩ | cases h1
    · exact Or.inr ⟨_, lwA_in h1, rfl⟩
  · rw [getD_out (show LDL.length ≤ c from Nat.not_lt.mp hc)] at h
    cases h
theorem ld_int {c i : Nat} {v : Int32} (h : kLd c i = some (.int v)) : Cond.constant (cln c) i v ∈ lw_tbl := by
  rcases ld_mem h with ⟨a, e⟩ | ⟨w, h1, h2⟩
  · cases e
  · rw [h2] at h1
    exact h1
theorem ld_long {c i : Nat} {v : Int64} (h : kLd c i = some (.long v)) : Cond.constantLong (cln c) i v ∈ lw_tbl := by
  rcases ld_mem h with ⟨a, e⟩ | ⟨w, h1, h2⟩
  · cases e
  · rw [h2] at h1
    exact h1
theorem ldr_all : (List.range 16).all (fun c => (LDL.getD c []).all (fun e => match e.2.1 with | .ref a => decide (c = 12) && (decide (1000 ≤ a) && (decide (a < 1005) && decide (srI (a - 1000) = e.1))) | _ => true)) = true := by decide +kernel
theorem ld_ref {q : Nat → Nat} {U : State} (hv : ∀ i, i < 5 → vk_R (cln 12) (srI i) (srT i) (q (1000 + i)) U) {c i : Nat} {a : Nat} (h : kLd c i = some (.ref a)) : ∃ j, j < 5 ∧ a = 1000 + j ∧ vk_R (cln c) i (srT j) (q (1000 + j)) U := by
  unfold kLd at h
  by_cases hc : c < 16
  · obtain ⟨e, he, hce⟩ := Option.map_eq_some_iff.mp h
    obtain ⟨v', ps⟩ := e
    have hce : v' = .ref a := hce
    subst hce
    have h1 := List.all_eq_true.mp (List.all_eq_true.mp ldr_all c (List.mem_range.mpr hc)) _ (lku_in he)
    have h1 : (decide (c = 12) && (decide (1000 ≤ a) && (decide (a < 1005) && decide (srI (a - 1000) = i)))) = true := h1
    simp only [Bool.and_eq_true, decide_eq_true_eq] at h1
    obtain ⟨h2, h3, h4, h5⟩ := h1
    have h6 := hv (a - 1000) (by omega)
    refine ⟨a - 1000, by omega, by omega, ?_⟩
    rw [h2, ← h5]
    exact h6
  · rw [getD_out (show LDL.length ≤ c from Nat.not_lt.mp hc)] at h
    cases h
theorem st_of {c i a : Nat} (h : kSt c i = some a) : ∃ j, j < 12 ∧ a = 1005 + j ∧ Cond.fieldLink (cln c) i "WallChapels$Plan" (saN j) (saD j) ∈ lw_tbl := by
  unfold kSt at h
  by_cases hc : c < 16
  · obtain ⟨e, he, hce⟩ := Option.map_eq_some_iff.mp h
    obtain ⟨v', ps⟩ := e
    have hce : v' = a := hce
    subst hce
    have h1 := List.all_eq_true.mp (List.all_eq_true.mp st_all c (List.mem_range.mpr hc)) _ (lku_in he)
    simp only [Bool.and_eq_true, decide_eq_true_eq] at h1
    obtain ⟨h2, h3, h4⟩ := h1
    exact ⟨v' - 1005, by omega, by omega, lwA_in h2⟩
  · rw [getD_out (show STL.length ≤ c from Nat.not_lt.mp hc)] at h
    cases h
theorem os_eq : ∀ (ps : List (Int × Int)) (d x : Int), Op.lookupswitch.offset ps d x = osw ps d x
  | [], _, _ => rfl
  | (a, o) :: t, d, x => by
    have h := os_eq t d x
    unfold osw
    rw [← h]
    by_cases c : x = a
    · subst c
      simp [Op.lookupswitch.offset]
    · have c' : ¬ a = x := fun z => c z.symm
      simp [Op.lookupswitch.offset, List.find?, c, c']
theorem os_in {pc : Nat} : ∀ {ps : List (Int × Int)} {d : Int}, 0 ≤ (pc : Int) + d → (∀ y ∈ ps, 0 ≤ (pc : Int) + y.2) → ∀ x, 0 ≤ (pc : Int) + osw ps d x
  | [], _, h, _, _ => h
  | (a, o) :: t, d, h, h2, x => by
    unfold osw
    split
    · exact h2 (a, o) List.mem_cons_self
    · exact os_in h (fun y hy => h2 y (List.mem_cons_of_mem _ hy)) x
theorem xty_lt {cA : Nat → ClassId} {x : Nat} (h : x < 3) : (xty cA)[x]? = some (cA x, match x with | 0 => FieldType.int | 1 => .byte | _ => .boolean) := by
  have : x = 0 ∨ x = 1 ∨ x = 2 := by omega
  rcases this with e | e | e <;> subst e <;> rfl
section XAA
variable {p : Program} {l : Launch} {e : Env} {R : Room} {s : State} {m : MethodId} {args : Array Value} {below : List Frame} {meth : Method} {c : Code} {H : Heap} {locs : List Loc} {cells slots : Nat} {Q : State → Prop}
variable {cc : ByteArray} {pc : Nat} {ls : Array Slot} {rest : List Value} {D : va_G} {cl : List vw_C} {a : Nat} {tys : List (ClassId × FieldType)} {ws : va_W}
theorem x_aldA (hexec : p.tables.exec = Jvm.exec) (hb : c.code = cc) (hK : va_K D cl tys s) (hP : va_P D cl ws H) (q0 t0 : Nat) {cA : ClassId} {n : Nat} {f : Nat → Option Nat} (ha : ws[q0]? = some (a, .inl (cA, n, .inr (.inr (.inr (.inr f)))))) (ht : tys[t0]? = some (cA, .array .int)) {i : Int32} (hin : vp_in i n) (hdg : decode cc pc = .ok (.aaload, 1))
    (kk : W p l e R s m args below meth c H locs cells slots Q (F0 m (pc + 1) ls (va_rf (f i.toNatClampNeg) :: rest))) : W p l e R s m args below meth c H locs cells slots Q (F0 m pc ls (.int i :: .ref a :: rest)) := by
  have hlt : i.toNatClampNeg < n := Nat.not_le.mp fun q => hin (Or.inr q)
  exact W.aald (v := va_rf (f i.toNatClampNeg)) (ty := .array .int) hexec hb (hP q0 _ ha) ((hK.2 t0 _ ht).1 n (fun j => va_rf (f j))) rfl (fun q => by cases q) (by show ¬ (i < 0 ∨ (arrV _ _ _).slots.size ≤ _); rw [arrV_size]; exact hin) (by show (arrV _ _ _).slots[_]? = _; rw [arrV_read _ _ hlt]) rfl rfl hdg kk
end XAA
/-! L1: every instruction, the walk, and the contract of a method out of its walk on the small machine -/
def rtB (k : Nat) : Bool := match kr k with
  | 0 => decide (krt k = none)
  | 1 => decide (krt k = some .int)
  | 2 => decide (krt k = some .boolean)
  | 4 => decide (krt k = some .long)
  | _ => true
theorem rt_all : (List.range 271).all rtB = true := by decide +kernel
section XALL
variable {p : Program} {l : Launch} {e : Env} {R : Room} {s : State} {mid : MethodId} {args : Array Value} {below : List Frame} {meth : Method} {c : Code}
variable {dC : Nat → ClassId} {dI : Nat → Nat → Nat} {cA : Nat → ClassId} {q sv : Nat → Nat} {k d : Nat} {A : Nat → Prop} {ca : Nat → List Value → xM → (Option Value → xM → Prop) → Prop} {kk : Nat → List (Nat × Value) → List Value → xM → Prop} {Qp : Option Value → xM → Prop}
abbrev xMQ (below : List Frame) (dC : Nat → ClassId) (dI : Nat → Nat → Nat) (cA : Nat → ClassId) (q : Nat → Nat) (Qp : Option Value → xM → Prop) (A : Nat → Prop) (args : Array Value) (s : State) : State → Prop := MQ below (xQ q Qp (xB dC dI cA q) A) args s 0 0 A
set_option maxHeartbeats 8000000 in
set_option maxRecDepth 20000 in
theorem x_one (C : xCtx p l R s mid args c dC dI cA q sv k d A ca) (ih : xIH p l e R s mid args below meth c (xMQ below dC dI cA q Qp A args s) dC dI cA q k A kk) (hk : k < 271) (hr : meth.sig.returnType = krt k) (hlocks : meth.locks = false) (i : Instr) {pc len : Nat} {lo : List (Nat × Value)} {st : List Value} {m : xM} {ls : Array Slot} {H : Heap} {locs : List Loc} (hd : decode (kB k) pc = .ok (i, len)) (hlen : xsw i = false → len = xlen i) (htg : xtg (pc, i) = true) (h : xi k ca kk Qp i pc lo st m) (hl : lv_has ls (knl k) (lo.map (xql q))) (hP : va_P (dC, dI) vwCl (wd q cA m) H) (hS : va_S A s.heap H locs) : W p l e R s mid args below meth c H locs 0 0 (xMQ below dC dI cA q Qp A args s) (F0 mid pc ls (st.map (xq q))) := by
  have C' := C
  obtain ⟨⟨hx, hb, hml, hown, hts⟩, hK, hG, hE, hA, hqA, hqi, hR, hca⟩ := C
  have hD : va_D A (wd q cA m) := wd_D hqi hqA
  have hrt := List.all_eq_true.mp rt_all k (List.mem_range.mpr hk)
  cases i
  case iconst n =>
    obtain rfl := hlen rfl
    simp only [xi] at h
    exact lv_iconst hx hb hd rfl (ih _ _ _ _ _ _ _ h hl hP hS)
  case bipush n =>
    obtain rfl := hlen rfl
    simp only [xi] at h
    exact lv_bipush hx hb hd rfl (ih _ _ _ _ _ _ _ h hl hP hS)
  case sipush n =>
    obtain rfl := hlen rfl
    simp only [xi] at h
    exact lv_sipush hx hb hd rfl (ih _ _ _ _ _ _ _ h hl hP hS)
  case lconst n =>
    obtain rfl := hlen rfl
    simp only [xi] at h
    exact lv_lconst hx hb hd rfl (ih _ _ _ _ _ _ _ h hl hP hS)
  case iload_n n =>
    obtain rfl := hlen rfl
    simp only [xi] at h
    split at h
    · rename_i x e1
      exact lv_iload_n hx hb hd rfl (lk_at hl e1) (ih _ _ _ _ _ _ _ h hl hP hS)
    · exact h.elim
  case lload_n n =>
    obtain rfl := hlen rfl
    simp only [xi] at h
    split at h
    · rename_i x e1
      exact lv_lload_n hx hb hd rfl (lk_at hl e1) (ih _ _ _ _ _ _ _ h hl hP hS)
    · exact h.elim
  case aload_n n =>
    obtain rfl := hlen rfl
    simp only [xi] at h
    split at h
    · rename_i x e1
      exact lv_aload_n hx hb hd rfl (lk_at hl e1) (ih _ _ _ _ _ _ _ h hl hP hS)
    · exact h.elim
  case iload n =>
    obtain rfl := hlen rfl
    simp only [xi] at h
    split at h
    · rename_i x e1
      exact lv_iload hx hb hd (lk_at hl e1) (ih _ _ _ _ _ _ _ h hl hP hS)
    · exact h.elim
  case lload n =>
    obtain rfl := hlen rfl
    simp only [xi] at h
    split at h
    · rename_i x e1
      exact lv_lload hx hb hd (lk_at hl e1) (ih _ _ _ _ _ _ _ h hl hP hS)
    · exact h.elim
  case aload n =>
    obtain rfl := hlen rfl
    simp only [xi] at h
    split at h
    · rename_i x e1
      exact lv_aload hx hb hd (lk_at hl e1) (ih _ _ _ _ _ _ _ h hl hP hS)
    · exact h.elim
  case istore_n n =>
    obtain rfl := hlen rfl
    simp only [xi] at h
    obtain ⟨h1, h2⟩ := h
    obtain ⟨x, r, rfl, h3⟩ := pI_of h2
    exact lv_istore_n hx hb hd rfl hl h1 (sv1_q (v := .int x)) (fun ls2 hl2 => ih _ _ _ _ _ _ _ h3 hl2 hP hS)
  case istore n =>
    obtain rfl := hlen rfl
    simp only [xi] at h
    obtain ⟨h1, h2⟩ := h
    obtain ⟨x, r, rfl, h3⟩ := pI_of h2
    exact lv_istore hx hb hd hl h1 (sv1_q (v := .int x)) (fun ls2 hl2 => ih _ _ _ _ _ _ _ h3 hl2 hP hS)
  case lstore_n n =>
    obtain rfl := hlen rfl
    simp only [xi] at h
    obtain ⟨h1, h2⟩ := h
    obtain ⟨x, r, rfl, h3⟩ := pL_of h2
    exact lv_lstore_n hx hb hd rfl hl h1 (sv2_q (v := .long x)) (fun ls2 hl2 => ih _ _ _ _ _ _ _ h3 hl2 hP hS)
  case lstore n =>
    obtain rfl := hlen rfl
    simp only [xi] at h
    obtain ⟨h1, h2⟩ := h
    obtain ⟨x, r, rfl, h3⟩ := pL_of h2
    exact lv_lstore hx hb hd hl h1 (sv2_q (v := .long x)) (fun ls2 hl2 => ih _ _ _ _ _ _ _ h3 hl2 hP hS)
  case astore_n n =>
    obtain rfl := hlen rfl
    simp only [xi] at h
    obtain ⟨h1, h2⟩ := h
    obtain ⟨x, r, rfl, h3⟩ := pR_of h2
    exact lv_astore_n hx hb hd rfl hl h1 (sv1_q (v := .ref x)) (fun ls2 hl2 => ih _ _ _ _ _ _ _ h3 hl2 hP hS)
  case astore n =>
    obtain rfl := hlen rfl
    simp only [xi] at h
    obtain ⟨h1, h2⟩ := h
    obtain ⟨x, r, rfl, h3⟩ := pR_of h2
    exact lv_astore hx hb hd hl h1 (sv1_q (v := .ref x)) (fun ls2 hl2 => ih _ _ _ _ _ _ _ h3 hl2 hP hS)
  case iinc n d9 =>
    obtain rfl := hlen rfl
    simp only [xi] at h
    obtain ⟨h1, h2⟩ := h
    split at h2
    · rename_i x e1
      obtain ⟨ix, hix⟩ := lkl_ix e1
      exact lv_iinc hx hb hd hl (k := ix) (by rw [List.getElem?_map, hix]; rfl) rfl h1 (sv1_q (v := .int (x + Int32.ofInt d9))) (fun ls2 hl2 => ih _ _ _ _ _ _ _ h2 hl2 hP hS)
    · exact h2.elim
  case iadd =>
    obtain rfl := hlen rfl
    simp only [xi] at h
    obtain ⟨y, r1, rfl, h1⟩ := pI_of h
    obtain ⟨x, r2, rfl, h2⟩ := pI_of h1
    exact lv_iadd hx hb hd (ih _ _ _ _ _ _ _ h2 hl hP hS)
  case isub =>
    obtain rfl := hlen rfl
    simp only [xi] at h
    obtain ⟨y, r1, rfl, h1⟩ := pI_of h
    obtain ⟨x, r2, rfl, h2⟩ := pI_of h1
    exact lv_isub hx hb hd (ih _ _ _ _ _ _ _ h2 hl hP hS)
  case imul =>
    obtain rfl := hlen rfl
    simp only [xi] at h
    obtain ⟨y, r1, rfl, h1⟩ := pI_of h
    obtain ⟨x, r2, rfl, h2⟩ := pI_of h1
    exact lv_imul hx hb hd (ih _ _ _ _ _ _ _ h2 hl hP hS)
  case iand =>
    obtain rfl := hlen rfl
    simp only [xi] at h
    obtain ⟨y, r1, rfl, h1⟩ := pI_of h
    obtain ⟨x, r2, rfl, h2⟩ := pI_of h1
    exact lv_iand hx hb hd (ih _ _ _ _ _ _ _ h2 hl hP hS)
  case ior =>
    obtain rfl := hlen rfl
    simp only [xi] at h
    obtain ⟨y, r1, rfl, h1⟩ := pI_of h
    obtain ⟨x, r2, rfl, h2⟩ := pI_of h1
    exact lv_ior hx hb hd (ih _ _ _ _ _ _ _ h2 hl hP hS)
  case ixor =>
    obtain rfl := hlen rfl
    simp only [xi] at h
    obtain ⟨y, r1, rfl, h1⟩ := pI_of h
    obtain ⟨x, r2, rfl, h2⟩ := pI_of h1
    exact lv_ixor hx hb hd (ih _ _ _ _ _ _ _ h2 hl hP hS)
  case ishl =>
    obtain rfl := hlen rfl
    simp only [xi] at h
    obtain ⟨y, r1, rfl, h1⟩ := pI_of h
    obtain ⟨x, r2, rfl, h2⟩ := pI_of h1
    exact lv_ishl hx hb hd (ih _ _ _ _ _ _ _ h2 hl hP hS)
  case ishr =>
    obtain rfl := hlen rfl
    simp only [xi] at h
    obtain ⟨y, r1, rfl, h1⟩ := pI_of h
    obtain ⟨x, r2, rfl, h2⟩ := pI_of h1
    exact lv_ishr hx hb hd (ih _ _ _ _ _ _ _ h2 hl hP hS)
  case iushr =>
    obtain rfl := hlen rfl
    simp only [xi] at h
    obtain ⟨y, r1, rfl, h1⟩ := pI_of h
    obtain ⟨x, r2, rfl, h2⟩ := pI_of h1
    exact lv_iushr hx hb hd rfl (ih _ _ _ _ _ _ _ h2 hl hP hS)
  case idiv =>
    obtain rfl := hlen rfl
    simp only [xi] at h
    obtain ⟨y, r1, rfl, h1⟩ := pI_of h
    obtain ⟨x, r2, rfl, h2, h3⟩ := pI_of h1
    exact lv_idiv hx hb hd h2 (ih _ _ _ _ _ _ _ h3 hl hP hS)
  case irem =>
    obtain rfl := hlen rfl
    simp only [xi] at h
    obtain ⟨y, r1, rfl, h1⟩ := pI_of h
    obtain ⟨x, r2, rfl, h2, h3⟩ := pI_of h1
    exact lv_irem hx hb hd h2 (ih _ _ _ _ _ _ _ h3 hl hP hS)
  case ladd =>
    obtain rfl := hlen rfl
    simp only [xi] at h
    obtain ⟨y, r1, rfl, h1⟩ := pL_of h
    obtain ⟨x, r2, rfl, h2⟩ := pL_of h1
    exact lv_ladd hx hb hd (ih _ _ _ _ _ _ _ h2 hl hP hS)
  case lsub =>
    obtain rfl := hlen rfl
    simp only [xi] at h
    obtain ⟨y, r1, rfl, h1⟩ := pL_of h
    obtain ⟨x, r2, rfl, h2⟩ := pL_of h1
    exact lv_lsub hx hb hd (ih _ _ _ _ _ _ _ h2 hl hP hS)
  case lmul =>
    obtain rfl := hlen rfl
    simp only [xi] at h
    obtain ⟨y, r1, rfl, h1⟩ := pL_of h
    obtain ⟨x, r2, rfl, h2⟩ := pL_of h1
    exact lv_lmul hx hb hd (ih _ _ _ _ _ _ _ h2 hl hP hS)
  case ldiv =>
    obtain rfl := hlen rfl
    simp only [xi] at h
    obtain ⟨y, r1, rfl, h1⟩ := pL_of h
    obtain ⟨x, r2, rfl, h2, h3⟩ := pL_of h1
    exact lv_ldiv hx hb hd h2 (ih _ _ _ _ _ _ _ h3 hl hP hS)
  case lrem =>
    obtain rfl := hlen rfl
    simp only [xi] at h
    obtain ⟨y, r1, rfl, h1⟩ := pL_of h
    obtain ⟨x, r2, rfl, h2, h3⟩ := pL_of h1
    exact lv_lrem hx hb hd h2 (ih _ _ _ _ _ _ _ h3 hl hP hS)
  case lushr =>
    obtain rfl := hlen rfl
    simp only [xi] at h
    obtain ⟨y, r1, rfl, h1⟩ := pI_of h
    obtain ⟨x, r2, rfl, h2⟩ := pL_of h1
    exact lv_lushr hx hb hd rfl (ih _ _ _ _ _ _ _ h2 hl hP hS)
  case lcmp =>
    obtain rfl := hlen rfl
    simp only [xi] at h
    obtain ⟨y, r1, rfl, h1⟩ := pL_of h
    obtain ⟨x, r2, rfl, h2⟩ := pL_of h1
    exact W.lcmp hx hb hd (ih _ _ _ _ _ _ _ h2 hl hP hS)
  case ineg =>
    obtain rfl := hlen rfl
    simp only [xi] at h
    obtain ⟨x, r1, rfl, h1⟩ := pI_of h
    exact lv_ineg hx hb hd (ih _ _ _ _ _ _ _ h1 hl hP hS)
  case i2l =>
    obtain rfl := hlen rfl
    simp only [xi] at h
    obtain ⟨x, r1, rfl, h1⟩ := pI_of h
    exact lv_i2l hx hb hd rfl (ih _ _ _ _ _ _ _ h1 hl hP hS)
  case i2b =>
    obtain rfl := hlen rfl
    simp only [xi] at h
    obtain ⟨x, r1, rfl, h1⟩ := pI_of h
    exact lv_i2b hx hb hd rfl (ih _ _ _ _ _ _ _ h1 hl hP hS)
  case l2i =>
    obtain rfl := hlen rfl
    simp only [xi] at h
    obtain ⟨x, r1, rfl, h1⟩ := pL_of h
    exact lv_l2i hx hb hd rfl (ih _ _ _ _ _ _ _ h1 hl hP hS)
  case dup =>
    obtain rfl := hlen rfl
    simp only [xi] at h
    obtain ⟨v, r1, rfl, h1, h2⟩ := pV_of h
    exact lv_dup hx hb hd (by rw [xq_cat]; exact h1) (ih _ _ _ _ _ _ _ h2 hl hP hS)
  case pop =>
    obtain rfl := hlen rfl
    simp only [xi] at h
    obtain ⟨v, r1, rfl, h1, h2⟩ := pV_of h
    exact lv_pop hx hb hd (by rw [xq_cat]; exact h1) (ih _ _ _ _ _ _ _ h2 hl hP hS)
  case dup2 =>
    obtain rfl := hlen rfl
    simp only [xi] at h
    obtain ⟨v, r1, rfl, h1⟩ := pV_of h
    obtain ⟨w, r2, rfl, h2, h3, h4⟩ := pV_of h1
    exact lv_dup2_11 hx hb hd (by rw [xq_cat]; exact h2) (by rw [xq_cat]; exact h3) (ih _ _ _ _ _ _ _ h4 hl hP hS)
  case goto o =>
    obtain rfl := hlen rfl
    simp only [xi] at h
    exact lv_goto hx hb hd (tg_of (of_decide_eq_true htg)) (ih _ _ _ _ _ _ _ h hl hP hS)
  case ifCond cc o =>
    obtain rfl := hlen rfl
    cases cc with
    | eq =>
      simp only [xi] at h
      obtain ⟨x, r1, rfl, hz⟩ := pI_of h
      exact lv_if_eq hx hb hd (tg_of (of_decide_eq_true htg)) (fun c9 => ih _ _ _ _ _ _ _ (hz.1 c9) hl hP hS) (fun c9 => ih _ _ _ _ _ _ _ (hz.2 c9) hl hP hS)
    | ne =>
      simp only [xi] at h
      obtain ⟨x, r1, rfl, hz⟩ := pI_of h
      exact lv_if_ne hx hb hd (tg_of (of_decide_eq_true htg)) (fun c9 => ih _ _ _ _ _ _ _ (hz.1 c9) hl hP hS) (fun c9 => ih _ _ _ _ _ _ _ (hz.2 c9) hl hP hS)
    | lt =>
      simp only [xi] at h
      obtain ⟨x, r1, rfl, hz⟩ := pI_of h
      exact lv_if_lt hx hb hd (tg_of (of_decide_eq_true htg)) (fun c9 => ih _ _ _ _ _ _ _ (hz.1 c9) hl hP hS) (fun c9 => ih _ _ _ _ _ _ _ (hz.2 c9) hl hP hS)
    | ge =>
      simp only [xi] at h
      obtain ⟨x, r1, rfl, hz⟩ := pI_of h
      exact lv_if_ge hx hb hd (tg_of (of_decide_eq_true htg)) (fun c9 => ih _ _ _ _ _ _ _ (hz.1 c9) hl hP hS) (fun c9 => ih _ _ _ _ _ _ _ (hz.2 c9) hl hP hS)
    | gt =>
      simp only [xi] at h
      obtain ⟨x, r1, rfl, hz⟩ := pI_of h
      exact lv_if_gt hx hb hd (tg_of (of_decide_eq_true htg)) (fun c9 => ih _ _ _ _ _ _ _ (hz.1 c9) hl hP hS) (fun c9 => ih _ _ _ _ _ _ _ (hz.2 c9) hl hP hS)
    | le =>
      simp only [xi] at h
      obtain ⟨x, r1, rfl, hz⟩ := pI_of h
      exact lv_if_le hx hb hd (tg_of (of_decide_eq_true htg)) (fun c9 => ih _ _ _ _ _ _ _ (hz.1 c9) hl hP hS) (fun c9 => ih _ _ _ _ _ _ _ (hz.2 c9) hl hP hS)
  case if_icmp cc o =>
    obtain rfl := hlen rfl
    cases cc with
    | eq =>
      simp only [xi] at h
      obtain ⟨y, r1, rfl, h1⟩ := pI_of h
      obtain ⟨x, r2, rfl, hz⟩ := pI_of h1
      exact lv_icmp_eq hx hb hd (tg_of (of_decide_eq_true htg)) (fun c9 => ih _ _ _ _ _ _ _ (hz.1 c9) hl hP hS) (fun c9 => ih _ _ _ _ _ _ _ (hz.2 c9) hl hP hS)
    | ne =>
      simp only [xi] at h
      obtain ⟨y, r1, rfl, h1⟩ := pI_of h
      obtain ⟨x, r2, rfl, hz⟩ := pI_of h1
      exact lv_icmp_ne hx hb hd (tg_of (of_decide_eq_true htg)) (fun c9 => ih _ _ _ _ _ _ _ (hz.1 c9) hl hP hS) (fun c9 => ih _ _ _ _ _ _ _ (hz.2 c9) hl hP hS)
    | lt =>
      simp only [xi] at h
      obtain ⟨y, r1, rfl, h1⟩ := pI_of h
      obtain ⟨x, r2, rfl, hz⟩ := pI_of h1
      exact lv_icmp_lt hx hb hd (tg_of (of_decide_eq_true htg)) (fun c9 => ih _ _ _ _ _ _ _ (hz.1 c9) hl hP hS) (fun c9 => ih _ _ _ _ _ _ _ (hz.2 c9) hl hP hS)
    | ge =>
      simp only [xi] at h
      obtain ⟨y, r1, rfl, h1⟩ := pI_of h
      obtain ⟨x, r2, rfl, hz⟩ := pI_of h1
      exact lv_icmp_ge hx hb hd (tg_of (of_decide_eq_true htg)) (fun c9 => ih _ _ _ _ _ _ _ (hz.1 c9) hl hP hS) (fun c9 => ih _ _ _ _ _ _ _ (hz.2 c9) hl hP hS)
    | gt =>
      simp only [xi] at h
      obtain ⟨y, r1, rfl, h1⟩ := pI_of h
      obtain ⟨x, r2, rfl, hz⟩ := pI_of h1
      exact lv_icmp_gt hx hb hd (tg_of (of_decide_eq_true htg)) (fun c9 => ih _ _ _ _ _ _ _ (hz.1 c9) hl hP hS) (fun c9 => ih _ _ _ _ _ _ _ (hz.2 c9) hl hP hS)
    | le =>
      simp only [xi] at h
      obtain ⟨y, r1, rfl, h1⟩ := pI_of h
      obtain ⟨x, r2, rfl, hz⟩ := pI_of h1
      exact lv_icmp_le hx hb hd (tg_of (of_decide_eq_true htg)) (fun c9 => ih _ _ _ _ _ _ _ (hz.1 c9) hl hP hS) (fun c9 => ih _ _ _ _ _ _ _ (hz.2 c9) hl hP hS)
  case ifnull o =>
    obtain rfl := hlen rfl
    simp only [xi] at h
    obtain ⟨x, r1, rfl, h1⟩ := pR_of h
    exact lv_ifnull hx hb hd (ih _ _ _ _ _ _ _ h1 hl hP hS)
  case ifnonnull o =>
    obtain rfl := hlen rfl
    simp only [xi] at h
    obtain ⟨x, r1, rfl, h1⟩ := pR_of h
    exact lv_ifnonnull hx hb hd (tg_of (of_decide_eq_true htg)) (ih _ _ _ _ _ _ _ h1 hl hP hS)
  case tableswitch d9 lo9 hi9 os =>
    simp only [xi] at h
    obtain ⟨x, r1, rfl, h1, h2⟩ := pI_of h
    simp only [xtg, Bool.and_eq_true, decide_eq_true_eq, List.all_eq_true] at htg
    by_cases c1 : x.toInt < lo9 ∨ hi9 < x.toInt
    · exact lv_tableOut hx hb hd c1 (tg_of htg.1) (ih _ _ _ _ _ _ _ (h1 c1) hl hP hS)
    · obtain ⟨o, e1, h3⟩ := h2 (fun z => c1 (Or.inl z)) (fun z => c1 (Or.inr z))
      exact lv_tableIn hx hb hd (fun z => c1 (Or.inl z)) (fun z => c1 (Or.inr z)) e1 (tg_of (htg.2 o (Array.mem_toList_iff.mpr (Array.mem_of_getElem? e1)))) (ih _ _ _ _ _ _ _ h3 hl hP hS)
  case lookupswitch d9 ps =>
    simp only [xi] at h
    obtain ⟨x, r1, rfl, h1⟩ := pI_of h
    simp only [xtg, Bool.and_eq_true, decide_eq_true_eq, List.all_eq_true] at htg
    obtain ⟨⟨t1, t2⟩, t3⟩ := htg
    exact lv_lookup hx hb hd (List.all_eq_true.mpr (by simpa using t3)) (os_eq ps.toList d9 x.toInt) (tg_of (os_in t1 t2 x.toInt)) (ih _ _ _ _ _ _ _ h1 hl hP hS)
  case ldc n =>
    obtain rfl := hlen rfl
    simp only [xi] at h
    split at h
    · rename_i v e1
      exact lv_ldc hx hb hown (hw_of hts (ld_int e1) rfl) hd (ih _ _ _ _ _ _ _ h hl hP hS)
    · rename_i a e1
      obtain ⟨j, hj, ej, hv⟩ := ld_ref hE.2.2.2.2 e1
      rw [ej] at h
      exact va_ldcS hx hb hown hv hd (ih _ _ _ _ _ _ _ h hl hP hS)
    · exact h.elim
  case ldc_w n =>
    obtain rfl := hlen rfl
    simp only [xi] at h
    split at h
    · rename_i v e1
      exact lv_ldcw hx hb hown (hw_of hts (ld_int e1) rfl) hd (ih _ _ _ _ _ _ _ h hl hP hS)
    · exact h.elim
  case ldc2_w n =>
    obtain rfl := hlen rfl
    simp only [xi] at h
    split at h
    · rename_i v e1
      exact lv_ldc2 hx hb hown (hw_of hts (ld_long e1) rfl) hd (ih _ _ _ _ _ _ _ h hl hP hS)
    · exact h.elim
  case getstatic n =>
    obtain rfl := hlen rfl
    simp only [xi] at h
    split at h
    · rename_i a e1
      obtain ⟨j, hj, ej, hw⟩ := st_of e1
      obtain ⟨hZ, -⟩ := hE.2.2.2.1 j hj
      rw [ej] at h
      exact va_gets hx hb hZ hS hown (hw_of hts hw rfl) (fun _ h9 => h9) hd (ih _ _ _ _ _ _ _ h hl hP hS)
    · exact h.elim
  case getfield n =>
    exact x_fld C' ih hd hlen h hl hP hS
  case putfield n =>
    exact x_putf C' ih hd hlen h hl hP hS
  case invokevirtual n =>
    exact x_inv C' ih hd hlen h hl hP hS
  case invokestatic n =>
    exact x_ins C' ih hd hlen h hl hP hS
  case arraylength =>
    obtain rfl := hlen rfl
    simp only [xi] at h
    obtain ⟨a, r1, rfl, h1⟩ := pR_of h
    split at h1
    · rename_i x9 n9 e1
      have ha1 := lay_lt e1 (by decide)
      have ha2 := wd_at (q := q) (cA := cA) (m := m) ha1
      rw [en_0 e1] at ha2
      have hx9 := (ly_of e1 (by decide)).2.1 rfl
      exact va_alen (D := (dC, dI)) hx hb hK hP a x9 ha2 (xty_lt hx9) rfl hd (ih _ _ _ _ _ _ _ h1 hl hP hS)
    · rename_i x9 n9 e1
      obtain ⟨j, hj, ej, en⟩ := lay_cst e1
      obtain ⟨-, hT⟩ := hE.2.2.2.1 j hj
      rw [← ej, e1] at hT
      exact va_tlen hx hb hT hS rfl hd (ih _ _ _ _ _ _ _ h1 hl hP hS)
    · exact h1.elim
  case iaload =>
    obtain rfl := hlen rfl
    simp only [xi] at h
    obtain ⟨i9, r1, rfl, h1⟩ := pI_of h
    obtain ⟨a, r2, rfl, h2⟩ := pR_of h1
    split at h2
    · rename_i n9 e1
      obtain ⟨h3, h4⟩ := h2
      have ha2 := wd_at (q := q) (cA := cA) (m := m) (lay_lt e1 (by decide))
      rw [en_0 e1] at ha2
      exact va_iald (D := (dC, dI)) hx hb hK hP a 0 ha2 rfl h3 hd (ih _ _ _ _ _ _ _ h4 hl hP hS)
    · rename_i n9 e1
      obtain ⟨h3, h4⟩ := h2
      obtain ⟨j, hj, ej, en⟩ := lay_cst e1
      obtain ⟨-, hT⟩ := hE.2.2.2.1 j hj
      rw [← ej, en.2 rfl, e1] at hT
      exact va_ti hx hb hT hS h3 rfl hd (ih _ _ _ _ _ _ _ h4 hl hP hS)
    · exact h2.elim
  case baload =>
    obtain rfl := hlen rfl
    simp only [xi] at h
    obtain ⟨i9, r1, rfl, h1⟩ := pI_of h
    obtain ⟨a, r2, rfl, h2⟩ := pR_of h1
    split at h2
    · rename_i n9 e1
      obtain ⟨h3, h4⟩ := h2
      have ha2 := wd_at (q := q) (cA := cA) (m := m) (lay_lt e1 (by decide))
      rw [en_0 e1] at ha2
      exact va_bald (D := (dC, dI)) hx hb hK hP a 1 ha2 rfl h3 hd (ih _ _ _ _ _ _ _ h4 hl hP hS)
    · rename_i n9 e1
      obtain ⟨h3, h4⟩ := h2
      have ha2 := wd_at (q := q) (cA := cA) (m := m) (lay_lt e1 (by decide))
      rw [en_0 e1] at ha2
      exact va_zald (D := (dC, dI)) hx hb hK hP a 2 ha2 rfl h3 hd (ih _ _ _ _ _ _ _ h4 hl hP hS)
    · exact h2.elim
  case caload =>
    obtain rfl := hlen rfl
    simp only [xi] at h
    obtain ⟨i9, r1, rfl, h1⟩ := pI_of h
    obtain ⟨a, r2, rfl, h2⟩ := pR_of h1
    split at h2
    · rename_i n9 e1
      obtain ⟨h3, h4⟩ := h2
      obtain ⟨j, hj, ej, en⟩ := lay_cst e1
      obtain ⟨-, hT⟩ := hE.2.2.2.1 j hj
      rw [← ej, en.1 rfl, e1] at hT
      exact va_tc hx hb hT hS h3 rfl hd (ih _ _ _ _ _ _ _ h4 hl hP hS)
    · exact h2.elim
  case laload =>
    obtain rfl := hlen rfl
    simp only [xi] at h
    obtain ⟨i9, r1, rfl, h1⟩ := pI_of h
    obtain ⟨a, r2, rfl, h2⟩ := pR_of h1
    split at h2
    · rename_i x9 n9 e1
      obtain ⟨h3, h4⟩ := h2
      have ha2 := wd_at (q := q) (cA := cA) (m := m) (lay_lt e1 (by decide))
      rw [en_1 e1] at ha2
      obtain rfl := (ly_of e1 (by decide)).2.2.1 rfl
      exact va_lald (D := (dC, dI)) hx hb hK hP a 4 ha2 rfl h3 hd (ih _ _ _ _ _ _ _ h4 hl hP hS)
    · exact h2.elim
  case aaload =>
    obtain rfl := hlen rfl
    simp only [xi] at h
    obtain ⟨i9, r1, rfl, h1⟩ := pI_of h
    obtain ⟨a, r2, rfl, h2⟩ := pR_of h1
    split at h2
    · rename_i x9 n9 e1
      obtain ⟨h3, h4⟩ := h2
      have ha2 := wd_at (q := q) (cA := cA) (m := m) (lay_lt e1 (by decide))
      rw [en_2 e1] at ha2
      have hz := ih _ _ _ _ _ _ _ h4 hl hP hS
      rw [List.map_cons, xq_rvl] at hz
      rcases (ly_of e1 (by decide)).2.2.2 rfl with e9 | e9 <;> subst e9
      · exact va_aldq (D := (dC, dI)) hx hb hK hP a 5 ha2 rfl h3 hd hz
      · exact x_aldA (D := (dC, dI)) hx hb hK hP a 6 ha2 rfl h3 hd hz
    · exact h2.elim
  case iastore =>
    obtain rfl := hlen rfl
    simp only [xi] at h
    obtain ⟨x9, r0, rfl, h0⟩ := pI_of h
    obtain ⟨i9, r1, rfl, h1⟩ := pI_of h0
    obtain ⟨a, r2, rfl, h2⟩ := pR_of h1
    split at h2
    · rename_i n9 e1
      obtain ⟨h3, h4⟩ := h2
      have ha1 := lay_lt e1 (by decide)
      have ha2 := wd_at (q := q) (cA := cA) (m := m) ha1
      rw [en_0 e1] at ha2
      exact va_iast (D := (dC, dI)) hx hb hK hP hD hS a 0 ha2 rfl h3 hd (fun H1 locs1 hP1 _ hS1 => ih _ _ _ _ _ _ _ h4 hl (by rw [← ar_set e1 ha1]; exact hP1) hS1)
    · exact h2.elim
  case bastore =>
    obtain rfl := hlen rfl
    simp only [xi] at h
    obtain ⟨x9, r0, rfl, h0⟩ := pI_of h
    obtain ⟨i9, r1, rfl, h1⟩ := pI_of h0
    obtain ⟨a, r2, rfl, h2⟩ := pR_of h1
    split at h2
    · rename_i n9 e1
      obtain ⟨h3, h4⟩ := h2
      have ha1 := lay_lt e1 (by decide)
      have ha2 := wd_at (q := q) (cA := cA) (m := m) ha1
      rw [en_0 e1] at ha2
      exact va_bast (D := (dC, dI)) hx hb hK hP hD hS a 1 ha2 rfl h3 hd (fun H1 locs1 hP1 _ hS1 => ih _ _ _ _ _ _ _ h4 hl (by rw [← ar_set e1 ha1]; exact hP1) hS1)
    · rename_i n9 e1
      obtain ⟨h3, h4⟩ := h2
      have ha1 := lay_lt e1 (by decide)
      have ha2 := wd_at (q := q) (cA := cA) (m := m) ha1
      rw [en_0 e1] at ha2
      exact va_zast (D := (dC, dI)) hx hb hK hP hD hS a 2 ha2 rfl h3 hd (fun H1 locs1 hP1 _ hS1 => ih _ _ _ _ _ _ _ h4 hl (by rw [← ar_set e1 ha1]; exact hP1) hS1)
    · exact h2.elim
  case lastore =>
    obtain rfl := hlen rfl
    simp only [xi] at h
    obtain ⟨x9, r0, rfl, h0⟩ := pL_of h
    obtain ⟨i9, r1, rfl, h1⟩ := pI_of h0
    obtain ⟨a, r2, rfl, h2⟩ := pR_of h1
    split at h2
    · rename_i x8 n9 e1
      obtain ⟨h3, h4⟩ := h2
      have ha1 := lay_lt e1 (by decide)
      have ha2 := wd_at (q := q) (cA := cA) (m := m) ha1
      rw [en_1 e1] at ha2
      obtain rfl := (ly_of e1 (by decide)).2.2.1 rfl
      exact va_last (D := (dC, dI)) hx hb hK hP hD hS a 4 ha2 rfl h3 hd (fun H1 locs1 hP1 _ hS1 => ih _ _ _ _ _ _ _ h4 hl (by rw [← ar_setL e1 ha1]; exact hP1) hS1)
    · exact h2.elim
  case ireturn =>
    obtain rfl := hlen rfl
    simp only [xi] at h
    obtain ⟨x, r1, rfl, h1, h2, h3⟩ := pI_of h
    subst h1
    unfold rtB at hrt
    rcases h2 with h2 | ⟨h2, h4⟩
    · rw [h2] at hrt
      exact W.iret hx hb (hr.trans (of_decide_eq_true hrt)) (fun t ht _ => ⟨⟨some (.int x), m, rfl, h3, by show va_P _ _ _ _; rw [ht]; exact hP⟩, hS.F ht⟩) hS.2.2 hd
    · rw [h2] at hrt
      exact W.zret hx hb (hr.trans (of_decide_eq_true hrt)) (by rcases h4 with h4 | h4 <;> rw [h4] <;> rfl) (fun t ht _ => ⟨⟨some (.int x), m, rfl, h3, by show va_P _ _ _ _; rw [ht]; exact hP⟩, hS.F ht⟩) hS.2.2 hd
  case lreturn =>
    obtain rfl := hlen rfl
    simp only [xi] at h
    obtain ⟨x, r1, rfl, h1, h2, h3⟩ := pL_of h
    subst h1
    unfold rtB at hrt
    rw [h2] at hrt
    exact W.lret hx hb (hr.trans (of_decide_eq_true hrt)) (fun t ht _ => ⟨⟨some (.long x), m, rfl, h3, by show va_P _ _ _ _; rw [ht]; exact hP⟩, hS.F ht⟩) hS.2.2 hd
  case return_ =>
    obtain rfl := hlen rfl
    simp only [xi] at h
    obtain ⟨h1, h2, h3⟩ := h
    subst h1
    unfold rtB at hrt
    rw [h2] at hrt
    exact W.vret hx hb (hr.trans (of_decide_eq_true hrt)) (fun t ht _ => ⟨⟨none, m, rfl, h3, by show va_P _ _ _ _; rw [ht]; exact hP⟩, hS.F ht⟩) hS.2.2 hd
  all_goals exact h.elim
theorem x_walk (C : xCtx p l R s mid args c dC dI cA q sv k d A ca) (hk : k < 271) (hr : meth.sig.returnType = krt k) (hlocks : meth.locks = false) : ∀ n, xIH p l e R s mid args below meth c (xMQ below dC dI cA q Qp A args s) dC dI cA q k A (xe k ca Qp n) := by
  intro n
  induction n with
  | zero => exact fun pc lo st m ls H locs h => h.elim
  | succ n ih =>
    intro pc lo st m ls H locs h hl hP hS
    unfold xe at h
    split at h
    · rename_i i e1
      obtain ⟨len, hd, hlen, htg⟩ := cz_of e1
      exact x_one C ih hk hr hlocks i hd hlen htg h hl hP hS
    · exact h.elim
end XALL
