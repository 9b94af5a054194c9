/-! what a throw asks for beside the words, carried into calls; the throw itself; the class's walker on a fresh object, and the law's own walker that catches it -/
abbrev xg : List Cond := (xAt.filter vx_no).filter goodWord
def xTxt : String := "no such walker, or nothing of him by that number"
def tP (s3 : Nat) (A : Nat → Prop) (U : State) (H : Heap) : Prop := (vx_Zq Bundle.tN "UNASSIGNED_STACK" Bundle.steD A U H ∧ vx_Zq Bundle.tN "SUPPRESSED_SENTINEL" Bundle.listD A U H) ∧ vk_R RX11 201 xTxt s3 U ∧ va_Nw (.castable xN xN) U ∧ va_Nw (.declares (Bundle.initS xR)) U ∧ va_Nw (.declares (Bundle.initS xE)) U ∧ va_Nw (.declares (Bundle.initS Bundle.tN)) U
theorem tP_use {s3 : Nat} {A B : Nat → Prop} {s U : State} {H : Heap} {locs : List Loc} (hE : tP s3 A s s.heap) (hS : va_S A s.heap H locs) (hF : ∀ q, B q → A q) (hU : U.heap = H) (hW : s.WarmedH U.vm) : tP s3 B U U.heap := by
  obtain ⟨⟨e1, e2⟩, e3, e4, e5, e6, e7⟩ := hE
  rw [hU]
  exact ⟨⟨((e1.kept hS.2.1).narrow hF).moved hW.alike, ((e2.kept hS.2.1).narrow hF).moved hW.alike⟩, e3.warm hW, va_Nw.warmC hW e4, va_Nw.warmD hW e5, va_Nw.warmD hW e6, va_Nw.warmD hW e7⟩
theorem tP_same {s3 : Nat} {A : Nat → Prop} {u U : State} (hv : U.vm = u.vm) (hh : U.heap = u.heap) (hE : tP s3 A u u.heap) : tP s3 A U U.heap := by
  obtain ⟨⟨e1, e2⟩, e3, e4, e5, e6, e7⟩ := hE
  have ha : u.vm.Alike U.vm := by rw [hv]; exact Vm.Alike.refl _
  rw [hh]
  exact ⟨⟨e1.moved ha, e2.moved ha⟩, e3.same hv, va_Nw.same rfl hv.symm e4, va_Nw.same rfl hv.symm e5, va_Nw.same rfl hv.symm e6, va_Nw.same rfl hv.symm e7⟩
def cWt (dC : Nat → ClassId) (dI : Nat → Nat → Nat) (W : va_W) (T : List (ClassId × FieldType)) (sz : Nat) (s3 : Nat) (U : State) : Prop := cW dC dI W T sz U ∧ tP s3 (va_A W sz) U U.heap
theorem cW_blindt {dC : Nat → ClassId} {dI : Nat → Nat → Nat} {W : va_W} {T : List (ClassId × FieldType)} {sz : Nat} {s3 : Nat} {av : List Value} : FrameBlind (va_Pc av (cWt dC dI W T sz s3)) := fun a U g mk q => by
  obtain ⟨q0, q1, qE⟩ := q
  exact ⟨q0, (cW_blind (av := av) a U g mk ⟨q0, q1⟩).2, tP_same (u := U) (U := U.calling g mk a) rfl rfl qE⟩
theorem cW_uset {dC : Nat → ClassId} {dI : Nat → Nat → Nat} {W : va_W} {T : List (ClassId × FieldType)} {A A0 : Nat → Prop} {s U : State} {H : Heap} {locs : List Loc} {s3 : Nat} (hU : U.heap = H) (hW : s.WarmedH U.vm) (hP : va_P (dC, dI) vwCl W H) (hK : va_K (dC, dI) vwCl T s) (hD : va_D A W) (hG : gxP s) (hS : va_S A0 s.heap H locs) (hF : ∀ q, va_A W H.size q → A0 q) (hE : tP s3 A0 s s.heap) : cWt dC dI W T H.size s3 U :=
  ⟨cW_use hU hW hP hK hD hG, tP_use hE hS hF hU hW⟩
theorem x_ot : ∀ w ∈ Cond.classLink RX11 199 xN :: Cond.initialized xN :: xAt.filter vx_no, vx_ot w = true := List.all_eq_true.mp (by decide +kernel)
theorem x_bad : ∀ w ∈ (xAt.filter vx_no).filter (fun w => !goodWord w), w ∈ [Cond.castable xN xN, .declares (Bundle.initS xR), .declares (Bundle.initS xE), .declares (Bundle.initS Bundle.tN)] := by decide +kernel
theorem x_all {args : Array Value} {s : State} {s3 : Nat} {A : Nat → Prop} (h1 : ∀ w ∈ xg, w.before args s = true) (hE : tP s3 A s s.heap) : ∀ w ∈ xAt.filter vx_no, w.before args s = true :=
  vx_hat h1 x_bad (vx_c (va_Nw.use rfl hE.2.2.1) (vx_c (va_Nw.use rfl hE.2.2.2.1) (vx_c (va_Nw.use rfl hE.2.2.2.2.1) (vx_c (va_Nw.use rfl hE.2.2.2.2.2) vx_n))))
section XTW
variable {p : Program} {l : Launch} {e : Env} {R : Room} {s : State} {m : MethodId} {args : Array Value} {below : List Frame} {meth : Method} {c : Code} {H : Heap} {locs : List Loc} {cells slots : Nat} {free : Addr → Prop} {ls : Array Slot} {rest : List Value} {Qc : Array Value → State → Outcome → State → Prop} {XC : String → State → State → Prop}
theorem x_throw {cc : ByteArray} {pc : Nat} (hexec : p.tables.exec = Jvm.exec) (hb : c.code = cc) (hl : l.stackTraces = false) {text : String} {mc ms sa : Nat} {A : Nat → Prop}
    (hown : s.vm.findClass RX11 = some m.cls) (hk : (Cond.classLink RX11 199 xN).before args s = true) (hini : (Cond.initialized xN).before args s = true) (hstr : vk_R RX11 201 text sa s) (hat : ∀ w ∈ xAt.filter vx_no, w.before args s = true)
    (hU : vx_Zq Bundle.tN "UNASSIGNED_STACK" Bundle.steD A s s.heap) (hN : vx_Zq Bundle.tN "SUPPRESSED_SENTINEL" Bundle.listD A s s.heap) (hS : va_S A s.heap H locs) (hsize : ls.size = c.maxLocals)
    (d0 : decode cc pc = .ok (.new 199, 3)) (d3 : decode cc (pc + 3) = .ok (.dup, 1)) (d4 : decode cc (pc + 4) = .ok (.ldc 201, 2)) (d6 : decode cc (pc + 6) = .ok (.invokespecial 203, 3)) (d9 : decode cc (pc + 9) = .ok (.athrow, 1))
    (hout : ∀ x ∈ c.exceptionTable.toList, covers x (pc + 9) = false)
    (hRframes : 5 < R.frames) (hRlocals : (rest.map fun v => v.category).sum + (13 * (2 + 1) + 43) ≤ R.locals) (hRcells : cells + 1 ≤ R.cells) (hRslots : slots + 6 ≤ R.slots) (hlocks : meth.locks = false)
    (hx : ∀ t : State, s.vm.Alike t.vm → H.size ≤ t.heap.size → (∀ q : Nat, q < H.size → t.heap[q]? = H[q]?) → XC xN s t)
    (hf : ∀ z ∈ locs, free z.base) (hc : cells + 1 ≤ mc) (hs : slots + 6 ≤ ms) :
    W p l e R s m args below meth c H locs cells slots (vx_MQ below Qc XC args s mc ms free) (F0 m pc ls rest) := by
  intro T hT X
  have htr : e.platform.stackTraces = false := (show e.platform.stackTraces = l.stackTraces by rw [X.admits.platform]).trans hl
  have Y := vx_rebase X (R' := { frames := R.frames, locals := R.locals, cells := 1, slots := 6 }) (Nat.le_refl _) (Nat.le_refl _) hRcells hRslots
  obtain ⟨s', hA⟩ : ∃ z, z = (T.setVm s.vm).setFrames (.invoking m args :: below) := ⟨_, rfl⟩
  rw [← hA] at Y
  have hvm : s'.vm = s.vm := by rw [hA]; rfl
  have hhp : s'.heap = H := by rw [hA]; exact hT
  have hW0 : s.WarmedH s'.vm := by rw [hvm]; exact State.WarmedH.refl s
  have hat' : ∀ w ∈ xAt.filter vx_no, w.before args s' = true := fun w hw => vx_ot_at hW0 hvm.symm (x_ot w (List.mem_cons_of_mem _ (List.mem_cons_of_mem _ hw))) (hat w hw)
  have hk' : (Cond.classLink RX11 199 xN).before args s' = true := vx_ot_at hW0 hvm.symm (x_ot _ List.mem_cons_self) hk
  have hini' : (Cond.initialized xN).before args s' = true := vx_ot_at hW0 hvm.symm (x_ot _ (List.mem_cons_of_mem _ List.mem_cons_self)) hini
  have hU' : vx_Zq Bundle.tN "UNASSIGNED_STACK" Bundle.steD A s' s'.heap := by rw [hhp]; exact vx_Zq.moved hW0.alike (hU.kept hS.2.1)
  have hN' : vx_Zq Bundle.tN "SUPPRESSED_SENTINEL" Bundle.listD A s' s'.heap := by rw [hhp]; exact vx_Zq.moved hW0.alike (hN.kept hS.2.1)
  have h : ∀ w ∈ xAt, w.before args s' = true := vx_own hat' (vx_isRefq hU'.1) (vx_isRefq hN'.1) hU'.2.word hN'.2.word
  have hown' : s'.vm.findClass RX11 = some m.cls := by rw [hvm]; exact hown
  have hins : (Cond.instantiable xN 6).before args s' = true := h _ (List.mem_append_right _ (by simp [xAt1]))
  obtain ⟨vm₁, cX, kX, hfX, hkX, -, -, X₁, st1⟩ := Y.newCold hexec (own := RX11) (C := xN) (index := 199) (n := 6) hown' hk' hins hini'
    (g := F0 m pc ls rest) rfl (by rw [hb]; exact d0) (Nat.le_refl _) (Nat.le_refl _)
  generalize hT1 : (T.setVm vm₁).pushCell { cls := cX, slots := kX.instanceTypes.map defaultValue, vm := .none } = T1 at X₁ st1
  have hcat : (Value.ref T.heap.size).category = 1 := rfl
  have hcellA : T1.heap[T.heap.size]? = some (freshCell cX kX) := by rw [← hT1]; exact State.heap_pushCell_size _ _
  have d3' : decode c.code (pc + 3) = .ok (.dup, 1) := by rw [hb]; exact d3
  have d4' : decode c.code (pc + 4) = .ok (.ldc 201, 2) := by rw [hb]; exact d4
  have hstr' : vk_R RX11 201 text sa s' := vk_R.warm hW0 hstr
  obtain ⟨U, hsteps, hrun, hend, hW, hsame, ce, hce, hO1, hO2⟩ := x_ctor X₁ hexec htr hown' h (fun x hx => nomatch hx) hfX hkX hcellA (by rw [hhp, hT]; exact Nat.le_refl _) (msg := .ref sa) rfl
    (g := { method := m, pc := pc + 6, locals := ls, stack := .ref sa :: .ref T.heap.size :: .ref T.heap.size :: rest, locked := none }) rfl hsize rfl rfl (rest := rest) rfl
    (by rw [hb]; exact d6) (by rw [hb]; exact d9) hout hRframes (by simp only [List.map_cons, List.sum_cons, hcat]; omega) hlocks
  obtain ⟨f1, f2⟩ := vx_frame hsame
  rw [hhp] at f1 f2
  have hWs : s.WarmedH U.vm := State.WarmedH.trans hW0 hW
  have hcl : s.vm.findClass xN = some ce.cls := by
    rw [hvm] at hO1
    exact hO1
  have hall : s.sameButNew ({ U with vm := s.vm } : State) locs mc ms := by
    subst hA
    obtain ⟨e1, e2⟩ := hsame
    rw [State.setFrames_setFrames] at e1
    have h2 : (T.setVm s.vm).sameButNew ({ U with vm := s.vm } : State) [] (0 + 1) (0 + 6) := ⟨e1, e2⟩
    have h3 := X.same.trans h2
    rw [List.append_nil] at h3
    exact h3.mono hc hs
  refine ⟨U, ?_, .threw T.heap.size, hrun, hend, Or.inr ⟨T.heap.size, rfl, xN, ce, locs, hx U hWs.alike f1 (fun q hq => f2 q hq (fun z hz => nomatch hz)), hce, hO2, hcl, hWs, hall, hf⟩⟩
  refine st1 _ ?_
  show Steps p.tables e below (T1.setTop { method := m, pc := pc + 3, locals := ls, stack := .ref T.heap.size :: rest, locked := none }) _
  jvm_step X₁.here [X₁.here.top, hexec, d3', Value.category]
  exact X₁.ldcString hexec (own := RX11) (text := text) (index := 201) (a := sa) hown' hstr'.1 hstr'.2
    (g := { method := m, pc := pc + 4, locals := ls, stack := .ref T.heap.size :: .ref T.heap.size :: rest, locked := none }) rfl d4' _ hsteps
end XTW
