/-! what else a start gives: the text "y", two statics of the JDK's, Plan's first row of numbers; carried into calls -/
def exP (sk sv : Nat → Nat) (s2 tz : Nat) (A : Nat → Prop) (U : State) (H : Heap) : Prop := (vk_S 1 [1] [[121]] sk sv A U H ∧ va_Z "java/lang/String" "COMPACT_STRINGS" "Z" (.int 1) A U H ∧ va_Zq "jdk/internal/util/Preconditions" "SIOOBE_FORMATTER" "Ljava/util/function/BiFunction;" A U H ∧ va_Z "WallChapels$Plan" "RULE_WITHOUT" "[I" (.ref tz) A U H ∧ va_T .int tz 2 (fun j => .int (if j = 0 then 4 else 20)) A U H) ∧ vk_R RX12 26 "y" (sk 0) U ∧ vk_R RX12 32 "ywflcd" s2 U
theorem ex_use {sk sv : Nat → Nat} {s2 tz : Nat} {A B : Nat → Prop} {s U : State} {H : Heap} {locs : List Loc} (hE : exP sk sv s2 tz A s s.heap) (hS : va_S A s.heap H locs) (hF : ∀ q, B q → A q) (hU : U.heap = H) (hW : s.WarmedH U.vm) : exP sk sv s2 tz B U U.heap := by
  obtain ⟨⟨e1, e2, e3, e4, e5⟩, e6, e7⟩ := hE
  rw [hU]
  exact ⟨⟨((e1.kept hS.2.1).narrow hF).moved hW.alike, ((e2.kept hS.2.1).narrow hF).moved hW.alike, ((e3.kept hS.2.1).narrow hF).moved hW.alike, ((e4.kept hS.2.1).narrow hF).moved hW.alike, ((e5.kept hS.2.1).narrow hF).moved hW.alike⟩, e6.warm hW, e7.warm hW⟩
theorem ex_same {sk sv : Nat → Nat} {s2 tz : Nat} {A : Nat → Prop} {u U : State} (hv : U.vm = u.vm) (hh : U.heap = u.heap) (hE : exP sk sv s2 tz A u u.heap) : exP sk sv s2 tz A U U.heap := by
  obtain ⟨⟨e1, e2, e3, e4, e5⟩, e6, e7⟩ := hE
  have ha : u.vm.Alike U.vm := by rw [hv]; exact Vm.Alike.refl _
  rw [hh]
  exact ⟨⟨e1.moved ha, e2.moved ha, e3.moved ha, e4.moved ha, e5.moved ha⟩, e6.same hv, e7.same hv⟩
def cWx (dC : Nat → ClassId) (dI : Nat → Nat → Nat) (W : va_W) (T : List (ClassId × FieldType)) (sz : Nat) (sk sv : Nat → Nat) (s2 tz : Nat) (U : State) : Prop := cW dC dI W T sz U ∧ exP sk sv s2 tz (va_A W sz) U U.heap
theorem cW_blindx {dC : Nat → ClassId} {dI : Nat → Nat → Nat} {W : va_W} {T : List (ClassId × FieldType)} {sz : Nat} {sk sv : Nat → Nat} {s2 tz : Nat} {av : List Value} : FrameBlind (va_Pc av (cWx dC dI W T sz sk sv s2 tz)) := fun a U g mk q => by
  obtain ⟨q0, q1, qE⟩ := q
  exact ⟨q0, (cW_blind (av := av) a U g mk ⟨q0, q1⟩).2, ex_same (u := U) (U := U.calling g mk a) rfl rfl qE⟩
theorem cW_usex {dC : Nat → ClassId} {dI : Nat → Nat → Nat} {W : va_W} {T : List (ClassId × FieldType)} {A A0 : Nat → Prop} {s U : State} {H : Heap} {locs : List Loc} {sk sv : Nat → Nat} {s2 tz : Nat} (hU : U.heap = H) (hW : s.WarmedH U.vm) (hP : va_P (dC, dI) vwCl W H) (hK : va_K (dC, dI) vwCl T s) (hD : va_D A W) (hG : gxP s) (hS : va_S A0 s.heap H locs) (hF : ∀ q, va_A W H.size q → A0 q) (hE : exP sk sv s2 tz A0 s s.heap) : cWx dC dI W T H.size sk sv s2 tz U :=
  ⟨cW_use hU hW hP hK hD hG, ex_use hE hS hF hU hW⟩
section MYC
variable {p : Program} {l : Launch} {e : Env} {R : Room} {s : State} {m : MethodId} {args : Array Value} {below : List Frame} {meth : Method} {c : Code} {H : Heap} {locs : List Loc} {cells slots : Nat} {Q : State → Prop}
variable {cc : ByteArray} {pc : Nat} {ls : Array Slot} {rest : List Value} {D : va_G} {cl : List vw_C} {A : Nat → Prop} {a : Nat} {tys : List (ClassId × FieldType)} {ws : va_W}
/-- arraycopy out of a constant row of ints into a row of the world (after the proof of the kit's row for bytes) -/
theorem my_copyT (hexec : p.tables.exec = Jvm.exec) (hb : c.code = cc) (hml : c.maxLocals = ls.size) {own : String} {index : Nat} (hown : s.vm.findClass own = some m.cls) (hlink : (Cond.methodLink own index arraycopyName).before args s = true) (hnat : (Cond.native arraycopyName).before args s = true) (hstat : (Cond.static arraycopyName).before args s = true) (hini : (Cond.initialized "java/lang/System").before args s = true)
    (hK : va_K D cl tys s) (hP : va_P D cl ws H) (hD : va_D A ws) (hS : va_S A s.heap H locs) {b0 n0 : Nat} {f : Nat → Int32} (hX : va_T .int b0 n0 (fun j => .int (f j)) A s s.heap) (q1 t1 : Nat) {c1 : ClassId} {n1 : Nat} {g : Nat → Int32} (ha1 : ws[q1]? = some (a, .inl (c1, n1, .inl g))) (ht1 : tys[t1]? = some (c1, .int))
    {sp dp n : Int32} (h1 : ¬ sp < 0) (h2 : ¬ dp < 0) (h3 : ¬ n < 0) (h4 : sp.toNatClampNeg + n.toNatClampNeg ≤ n0) (h5 : dp.toNatClampNeg + n.toNatClampNeg ≤ n1)
    (hframes : 1 ≤ R.frames) (hlocals : (rest.map fun v => v.category).sum + (nativeFrameWords "java/lang/System" "arraycopy" 5 + 11) ≤ R.locals) (hdg : decode cc pc = .ok (.invokestatic index, 3))
    (kk : ∀ (f9 : Nat → Int32) (H1 : Heap) (locs1 : List Loc), va_P D cl (ws.set q1 (a, .inl (c1, n1, .inl f9))) H1 → va_D A (ws.set q1 (a, .inl (c1, n1, .inl f9))) → va_S A s.heap H1 locs1 → W p l e R s m args below meth c H1 locs1 cells slots Q (F0 m (pc + 3) ls rest)) : W p l e R s m args below meth c H locs cells slots Q (F0 m pc ls (.int n :: .int dp :: .ref a :: .int sp :: .ref b0 :: rest)) := by
  have pos : ∀ z : Int32, ¬ z < 0 → z.toInt = (z.toNatClampNeg : Int) := by
    intro z hz
    have h0 : (0 : Int) ≤ z.toInt := by
      have := Int32.not_lt.mp hz
      simpa using Int32.le_iff_toInt_le.mp this
    show z.toInt = ((z.toInt.toNat : Nat) : Int)
    omega
  intro T hT X
  obtain ⟨src, y1, y2, y3, y4, -, y5, y7⟩ := hX
  have hsrc : H[b0]? = some src := by rw [hS.2.1 b0 (Array.getElem?_eq_some_iff.mp y1).1 y7]; exact y1
  have hdst : H[a]? = some (vp_cell c1 (n1, .inl g)) := hP q1 _ ha1
  obtain ⟨y6, k0, hk0, cm0, hkk0⟩ := y2
  obtain ⟨-, k1, hk1, cm1, hkk1⟩ := (hK.2 t1 _ ht1).1 n1 (fun j => .int (g j))
  obtain ⟨vm', X', step⟩ := X.arraycopy hexec hown hlink hnat hstat hini (src := b0) (dst := a) (cs := src) (cd := vp_cell c1 (n1, .inl g)) (srcPos := sp) (destPos := dp) (n := n) (by rw [hT]; exact hsrc) (by rw [hT]; exact hdst)
    y6 (fun _ h => by cases h) y3 (fun h => by cases h) hk0 hk1 hkk0 hkk1 (by simp [refKind]) h1 h2 h3
    (by rw [pos sp h1, pos n h3]; omega)
    (by rw [pos dp h2, pos n h3]; show ¬ _ > ((arrV c1 n1 (fun j => .int (g j))).slots.size : Int); rw [arrV_size]; omega)
    (fun vm₁ _ i hi => by
      have e : src.slots.getD (sp.toNatClampNeg + i) .null = .int (f (sp.toNatClampNeg + i)) := by
        rw [Array.getD_eq_getD_getElem?, y5 _ (by omega)]
        rfl
      refine ⟨?_, ?_⟩
      · rw [e]
        rfl
      · rw [e]
        exact trivial)
    (g := F0 m pc ls (.int n :: .int dp :: .ref a :: .int sp :: .ref b0 :: rest)) rfl (by rw [hml]) (rest := rest) rfl (by rw [hb]; exact hdg) hframes (by show 2 * 0 + _ + _ ≤ _; omega)
  have e1 : copied src (vp_cell c1 (n1, .inl g)) sp dp n = vp_cell c1 (n1, .inl (va_cpy f g sp.toNatClampNeg dp.toNatClampNeg n.toNatClampNeg)) := va_copiedX (fun z => .int z) src c1 f g y5 h4
  rw [e1] at X' step
  generalize hfr : va_cpy f g sp.toNatClampNeg dp.toNatClampNeg n.toNatClampNeg = f9 at X' step
  have hl : a < H.size := (Array.getElem?_eq_some_iff.mp hdst).1
  have hheap : ((T.setVm vm').setCell a (vp_cell c1 (n1, .inl f9))).heap = H.setIfInBounds a (vp_cell c1 (n1, .inl f9)) := by rw [← hT]; rfl
  have oq : ∀ q : Nat, q ≠ a → (H.setIfInBounds a (vp_cell c1 (n1, .inl f9)))[q]? = H[q]? := fun q hq => by simp [Array.getElem?_setIfInBounds, Ne.symm hq]
  have hat : va_at D cl (a, .inl (c1, n1, .inl f9)) (H.setIfInBounds a (vp_cell c1 (n1, .inl f9))) := show (H.setIfInBounds a _)[a]? = some _ by simp [Array.getElem?_setIfInBounds, hl]
  obtain ⟨t, a1, b1⟩ := kk f9 _ _ (hP.set hD ha1 hat oq) (hD.set ha1) ⟨by simp; exact hS.1, fun q g1 g2 => by
      rw [oq q (fun e => g2 (by rw [e]; exact hD.2 q1 _ ha1))]
      exact hS.2.1 q g1 g2, fun q hq => by
      rcases List.mem_append.mp hq with h | h
      · exact hS.2.2 q h
      · obtain ⟨z, -, hz⟩ := List.mem_map.mp h
        rw [← hz]
        exact hD.2 q1 _ ha1⟩ _ hheap X'
  exact ⟨t, step t a1, b1⟩
end MYC
