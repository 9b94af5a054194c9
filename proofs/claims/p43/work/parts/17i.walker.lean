/-! L3: the walker: the throw, the catch -/
set_option maxRecDepth 20000 in
theorem dXw_0 : decode cX11_walker 0 = .ok (.aload_n 0, 1) := by decide +kernel
set_option maxRecDepth 20000 in
theorem dXw_1 : decode cX11_walker 1 = .ok (.iload_n 1, 1) := by decide +kernel
set_option maxRecDepth 20000 in
theorem dXw_2 : decode cX11_walker 2 = .ok (.invokevirtual 196, 3) := by decide +kernel
set_option maxRecDepth 20000 in
theorem dXw_5 : decode cX11_walker 5 = .ok (.ifCond .eq 12, 3) := by decide +kernel
set_option maxRecDepth 20000 in
theorem dXw_8 : decode cX11_walker 8 = .ok (.iload_n 2, 1) := by decide +kernel
set_option maxRecDepth 20000 in
theorem dXw_9 : decode cX11_walker 9 = .ok (.ifCond .lt 8, 3) := by decide +kernel
set_option maxRecDepth 20000 in
theorem dXw_12 : decode cX11_walker 12 = .ok (.iload_n 2, 1) := by decide +kernel
set_option maxRecDepth 20000 in
theorem dXw_13 : decode cX11_walker 13 = .ok (.iconst 1, 1) := by decide +kernel
set_option maxRecDepth 20000 in
theorem dXw_14 : decode cX11_walker 14 = .ok (.if_icmp .le 13, 3) := by decide +kernel
set_option maxRecDepth 20000 in
theorem dXw_17 : decode cX11_walker 17 = .ok (.new 199, 3) := by decide +kernel
set_option maxRecDepth 20000 in
theorem dXw_20 : decode cX11_walker 20 = .ok (.dup, 1) := by decide +kernel
set_option maxRecDepth 20000 in
theorem dXw_21 : decode cX11_walker 21 = .ok (.ldc 201, 2) := by decide +kernel
set_option maxRecDepth 20000 in
theorem dXw_23 : decode cX11_walker 23 = .ok (.invokespecial 203, 3) := by decide +kernel
set_option maxRecDepth 20000 in
theorem dXw_26 : decode cX11_walker 26 = .ok (.athrow, 1) := by decide +kernel
set_option maxRecDepth 20000 in
theorem dXw_27 : decode cX11_walker 27 = .ok (.iload_n 2, 1) := by decide +kernel
set_option maxRecDepth 20000 in
theorem dXw_28 : decode cX11_walker 28 = .ok (.ifCond .ne 15, 3) := by decide +kernel
set_option maxRecDepth 20000 in
theorem dXw_31 : decode cX11_walker 31 = .ok (.aload_n 0, 1) := by decide +kernel
set_option maxRecDepth 20000 in
theorem dXw_32 : decode cX11_walker 32 = .ok (.getfield 75, 3) := by decide +kernel
set_option maxRecDepth 20000 in
theorem dXw_35 : decode cX11_walker 35 = .ok (.getfield 206, 3) := by decide +kernel
set_option maxRecDepth 20000 in
theorem dXw_38 : decode cX11_walker 38 = .ok (.iload_n 1, 1) := by decide +kernel
set_option maxRecDepth 20000 in
theorem dXw_39 : decode cX11_walker 39 = .ok (.iaload, 1) := by decide +kernel
set_option maxRecDepth 20000 in
theorem dXw_40 : decode cX11_walker 40 = .ok (.goto 12, 3) := by decide +kernel
set_option maxRecDepth 20000 in
theorem dXw_43 : decode cX11_walker 43 = .ok (.aload_n 0, 1) := by decide +kernel
set_option maxRecDepth 20000 in
theorem dXw_44 : decode cX11_walker 44 = .ok (.getfield 75, 3) := by decide +kernel
set_option maxRecDepth 20000 in
theorem dXw_47 : decode cX11_walker 47 = .ok (.getfield 209, 3) := by decide +kernel
set_option maxRecDepth 20000 in
theorem dXw_50 : decode cX11_walker 50 = .ok (.iload_n 1, 1) := by decide +kernel
set_option maxRecDepth 20000 in
theorem dXw_51 : decode cX11_walker 51 = .ok (.iaload, 1) := by decide +kernel
set_option maxRecDepth 20000 in
theorem dXw_52 : decode cX11_walker 52 = .ok (.ireturn, 1) := by decide +kernel
set_option maxRecDepth 20000 in
theorem dLw_0 : decode cL_walker 0 = .ok (.aload_n 3, 1) := by decide +kernel
set_option maxRecDepth 20000 in
theorem dLw_1 : decode cL_walker 1 = .ok (.iconst 0, 1) := by decide +kernel
set_option maxRecDepth 20000 in
theorem dLw_2 : decode cL_walker 2 = .ok (.aload_n 0, 1) := by decide +kernel
set_option maxRecDepth 20000 in
theorem dLw_3 : decode cL_walker 3 = .ok (.iload_n 1, 1) := by decide +kernel
set_option maxRecDepth 20000 in
theorem dLw_4 : decode cL_walker 4 = .ok (.iload_n 2, 1) := by decide +kernel
set_option maxRecDepth 20000 in
theorem dLw_5 : decode cL_walker 5 = .ok (.invokevirtual 7, 3) := by decide +kernel
set_option maxRecDepth 20000 in
theorem dLw_8 : decode cL_walker 8 = .ok (.i2l, 1) := by decide +kernel
set_option maxRecDepth 20000 in
theorem dLw_9 : decode cL_walker 9 = .ok (.lastore, 1) := by decide +kernel
set_option maxRecDepth 20000 in
theorem dLw_10 : decode cL_walker 10 = .ok (.goto 7, 3) := by decide +kernel
set_option maxRecDepth 20000 in
theorem dLw_13 : decode cL_walker 13 = .ok (.astore 4, 2) := by decide +kernel
set_option maxRecDepth 20000 in
theorem dLw_15 : decode cL_walker 15 = .ok (.iconst 1, 1) := by decide +kernel
set_option maxRecDepth 20000 in
theorem dLw_16 : decode cL_walker 16 = .ok (.ireturn, 1) := by decide +kernel
set_option maxRecDepth 20000 in
theorem dLw_17 : decode cL_walker 17 = .ok (.iconst 0, 1) := by decide +kernel
set_option maxRecDepth 20000 in
theorem dLw_18 : decode cL_walker 18 = .ok (.ireturn, 1) := by decide +kernel
set_option maxRecDepth 20000 in
theorem dW_446 : decode cL_law 446 = .ok (.aload_n 1, 1) := by decide +kernel
set_option maxRecDepth 20000 in
theorem dW_447 : decode cL_law 447 = .ok (.aload_n 0, 1) := by decide +kernel
set_option maxRecDepth 20000 in
theorem dW_448 : decode cL_law 448 = .ok (.iload 4, 2) := by decide +kernel
set_option maxRecDepth 20000 in
theorem dW_450 : decode cL_law 450 = .ok (.iconst 1, 1) := by decide +kernel
set_option maxRecDepth 20000 in
theorem dW_451 : decode cL_law 451 = .ok (.iadd, 1) := by decide +kernel
set_option maxRecDepth 20000 in
theorem dW_452 : decode cL_law 452 = .ok (.iaload, 1) := by decide +kernel
set_option maxRecDepth 20000 in
theorem dW_453 : decode cL_law 453 = .ok (.aload_n 0, 1) := by decide +kernel
set_option maxRecDepth 20000 in
theorem dW_454 : decode cL_law 454 = .ok (.iload 4, 2) := by decide +kernel
set_option maxRecDepth 20000 in
theorem dW_456 : decode cL_law 456 = .ok (.iconst 2, 1) := by decide +kernel
set_option maxRecDepth 20000 in
theorem dW_457 : decode cL_law 457 = .ok (.iadd, 1) := by decide +kernel
set_option maxRecDepth 20000 in
theorem dW_458 : decode cL_law 458 = .ok (.iaload, 1) := by decide +kernel
set_option maxRecDepth 20000 in
theorem dW_459 : decode cL_law 459 = .ok (.aload_n 3, 1) := by decide +kernel
set_option maxRecDepth 20000 in
theorem dW_460 : decode cL_law 460 = .ok (.invokestatic 46, 3) := by decide +kernel
set_option maxRecDepth 20000 in
theorem dW_463 : decode cL_law 463 = .ok (.istore 5, 2) := by decide +kernel
set_option maxRecDepth 20000 in
theorem dW_465 : decode cL_law 465 = .ok (.aload_n 2, 1) := by decide +kernel
set_option maxRecDepth 20000 in
theorem dW_466 : decode cL_law 466 = .ok (.aload_n 0, 1) := by decide +kernel
set_option maxRecDepth 20000 in
theorem dW_467 : decode cL_law 467 = .ok (.iload 4, 2) := by decide +kernel
set_option maxRecDepth 20000 in
theorem dW_469 : decode cL_law 469 = .ok (.iconst 1, 1) := by decide +kernel
set_option maxRecDepth 20000 in
theorem dW_470 : decode cL_law 470 = .ok (.iadd, 1) := by decide +kernel
set_option maxRecDepth 20000 in
theorem dW_471 : decode cL_law 471 = .ok (.iaload, 1) := by decide +kernel
set_option maxRecDepth 20000 in
theorem dW_472 : decode cL_law 472 = .ok (.aload_n 0, 1) := by decide +kernel
set_option maxRecDepth 20000 in
theorem dW_473 : decode cL_law 473 = .ok (.iload 4, 2) := by decide +kernel
set_option maxRecDepth 20000 in
theorem dW_475 : decode cL_law 475 = .ok (.iconst 2, 1) := by decide +kernel
set_option maxRecDepth 20000 in
theorem dW_476 : decode cL_law 476 = .ok (.iadd, 1) := by decide +kernel
set_option maxRecDepth 20000 in
theorem dW_477 : decode cL_law 477 = .ok (.iaload, 1) := by decide +kernel
set_option maxRecDepth 20000 in
theorem dW_478 : decode cL_law 478 = .ok (.invokevirtual 51, 3) := by decide +kernel
set_option maxRecDepth 20000 in
theorem dW_481 : decode cL_law 481 = .ok (.istore 6, 2) := by decide +kernel
set_option maxRecDepth 20000 in
theorem dW_483 : decode cL_law 483 = .ok (.goto 1118, 3) := by decide +kernel
def xPt (dC : Nat → ClassId) (dI : Nat → Nat → Nat) (cA : Nat → ClassId) (q sv : Nat → Nat) (m : xM) (sz s3 : Nat) (U : State) : Prop := xP dC dI cA q sv m sz U ∧ tP s3 (xA q sz) U U.heap
theorem xPt_blind {dC : Nat → ClassId} {dI : Nat → Nat → Nat} {cA : Nat → ClassId} {q sv : Nat → Nat} {m : xM} {sz s3 : Nat} {av : List Value} : FrameBlind (va_Pc av (xPt dC dI cA q sv m sz s3)) := fun a U g mk z => by
  obtain ⟨q0, q1, qE⟩ := z
  exact ⟨q0, (xP_blind (av := av) a U g mk ⟨q0, q1⟩).2, tP_same (u := U) (U := U.calling g mk a) rfl rfl qE⟩
/-- the walker keeps the program's memory but for the answer's cell -/
def wkU (x u : xM) : Prop := gI tS tR u ∧ u.1 = x.1
def wW : List Cond := Cond.codeWith yL_walker cL_walker 5 (some .int) [(0, 10, 13, 13)] :: alW
theorem xg_alW : ∀ w ∈ xg, w ∈ alW := by
  have h1 : ∀ w ∈ xg, w ∈ lw_tbl := by decide +kernel
  exact fun w hw => List.mem_filter.mpr ⟨h1 w hw, (List.mem_filter.mp hw).2⟩
theorem wk_in {w : Cond} (i : Nat) (h : alW[i]? = some w) : w ∈ alW := List.mem_of_getElem? h
section WKR
variable {p : Program} {l : Launch} {e : Env} {R : Room} {s : State} {mid : MethodId} {args : Array Value} {below : List Frame} {meth : Method} {c : Code}
variable {dC : Nat → ClassId} {dI : Nat → Nat → Nat} {cA : Nat → ClassId} {q sv : Nat → Nat} {cells slots : Nat} {Q : State → Prop} {ls : Array Slot} {H : Heap} {locs : List Loc}
/-- a field read, of any method -/
theorem w_get {k : Nat} {cc : ByteArray} (hx : p.tables.exec = Jvm.exec) (hb : c.code = cc) (hts : ∀ w ∈ kW k, w.before args s = true) (hown : s.vm.findClass (cln (kcl k)) = some mid.cls) (hK : va_K (dC, dI) vwCl (xty cA) s) (hG : gxP s) {idx pc ci f a : Nat} {m : xM} {rest : List Value} (hd : decode cc pc = .ok (.getfield idx, 3)) (e1 : kFd (kcl k) idx = some (ci, f)) (h1 : lay a = (3, ci, kNf ci)) (hP : va_P (dC, dI) vwCl (wd q cA m) H)
    (kk : W p l e R s mid args below meth c H locs cells slots Q (F0 mid (pc + 3) ls (xq q (fvl m a ci f) :: rest))) : W p l e R s mid args below meth c H locs cells slots Q (F0 mid pc ls (.ref (q a) :: rest)) := by
  obtain ⟨hf, hc, hw⟩ := fd_of e1
  have hw' := wd_at (q := q) (cA := cA) (m := m) (lay_lt h1 (by decide))
  rw [en_3 h1] at hw'
  have hv : ((List.range (kNf ci)).map (fun f => xq q (fvl m a ci f)))[f]? = some (xq q (fvl m a ci f)) := by rw [List.getElem?_map, List.getElem?_range hf]; rfl
  rcases hw with hw | hw
  · exact va_getN (D := (dC, dI)) hx hb hts (uw_in hc) hown hK hP a hw' (vw_of hc) f hf (va_Nw.use rfl (hG.1 _ hw rfl)) (fun _ h9 => h9) hv hd kk
  · exact va_get (D := (dC, dI)) hx hb hts (uw_in hc) hown hK hP a hw' (vw_of hc) f hf (hw_of hts hw rfl) (fun _ h9 => h9) hv hd kk
/-- a call of the method j at the cell a, out of any method's frame -/
theorem w_inv {k : Nat} {cc : ByteArray} {nL : Nat} {own : String} {A0 : Nat → Prop} (hx : p.tables.exec = Jvm.exec) (hb : c.code = cc) (hml : c.maxLocals = nL) (hts : ∀ w ∈ kW k, w.before args s = true) (hown : s.vm.findClass own = some mid.cls) (hK : va_K (dC, dI) vwCl (xty cA) s) (hG : gxP s) (hE : xE q sv A0 s s.heap) (hqA : ∀ k, k < 335 → A0 (q k)) (hA : ∀ a, s.heap.size ≤ a → A0 a) (hqi : ∀ i j, i < 335 → j < 335 → q i = q j → i = j)
    {j a pc idx d : Nat} {as rest : List Value} {x : xM} {post : Option Value → xM → Prop} (hd : decode cc pc = .ok (.invokevirtual idx, 3)) (c1 : j < 273) (hw : Cond.methodLink own idx (kY j) ∈ lw_tbl) (h5 : kst j = false) (h6 : (mwL.getD j (false, 0, 0, 0)).2.2.1 ≠ 9999) (c7 : (kY j).cls = cln (kcl j)) (c8 : kcl j < 13) (h1 : lay a = (3, kcl j, kNf (kcl j))) (hn : as.length = knp j) (h2 : (rest.map fun v => v.category).sum ≤ 8) (h : xw d j (.ref a :: as) x post) (hls : ls.size = nL) (hP : va_P (dC, dI) vwCl (wd q cA x) H) (hS : va_S A0 s.heap H locs) (hrm : (rmd d).frames + 1 ≤ R.frames ∧ 8 + (knl j + 11) + (rmd d).locals ≤ R.locals)
    (kk : ∀ (rv : Option Value) (x' : xM) (H1 : Heap) (locs1 : List Loc), post rv x' → va_P (dC, dI) vwCl (wd q cA x') H1 → va_S A0 s.heap H1 locs1 → W p l e R s mid args below meth c H1 locs1 cells slots Q (F0 mid (pc + 3) ls ((rv.map (xq q)).toList ++ rest))) (hcs : cells ≤ R.cells ∧ slots ≤ R.slots) : W p l e R s mid args below meth c H locs cells slots Q (F0 mid pc ls ((as.map (xq q)).reverse ++ .ref (q a) :: rest)) := by
  obtain ⟨-, w2, w3⟩ := mw_of c1
  obtain ⟨w4, w5⟩ := w2 h5
  have hb9 : a < 335 := lay_lt h1 (by decide)
  have he : (wd q cA x)[a]? = some (q a, .inr (kcl j, (List.range (kNf (kcl j))).map (fun f => xq q (fvl x a (kcl j) f)))) := by rw [wd_at hb9, en_3 h1]
  have hM := x_met (l := l) (dC := dC) (dI := dI) (cA := cA) (q := q) (sv := sv) d j c1 _ _ _ H.size h
  have hf : ∀ a, xA q H.size a → A0 a := x_free hqA hS hA
  have hpre : PreV s H (cln (kcl j)) (q a) (va_Pc (((Value.ref a) :: as).map (xq q)) (xP dC dI cA q sv x H.size)) (as.map (xq q)) := ⟨xP_blind, va_recv hK hP (vw_of c8) he, fun U hU hW => ⟨rfl, xP_use hU hW hP hK hqi hG hS hf hE⟩⟩
  have hrest : 2 * (F0 mid pc ls ((as.map (xq q)).reverse ++ .ref (q a) :: rest)).monitorRoom + (rest.map fun v => v.category).sum ≤ 8 := lv_room h2
  refine x_call2 (va_runV (As := as.map (xq q)) (rest := rest) (C := cln (kcl j)) ⟨hx, hb, hml, hown, hts⟩ hM ⟨callB_of (knp j) hts (kW_good (cd_in c1)) rfl rfl rfl (hw_of hts w3 rfl) (hw_of hts hw rfl) (md_of c1) hrm, hw_of hts w4 rfl, ?_⟩ hpre rfl (by rw [List.length_map]; exact hn) hls rfl hrest hd hcs) hS (fun a _ h9 => hf a h9) hf (fun rv u t H1 locs1 ht _ hp hB hz hkp hS1 => ?_)
  · rw [← c7]
    exact hw_of hts (w5 h6) rfl
  · have hP1 : va_P (dC, dI) vwCl (wd q cA u) H1 := by rw [← ht]; exact hB
    exact kk rv u H1 locs1 hp hP1 hS1
end WKR

theorem xq_fv {q : Nat → Nat} {u : xM} (hu : gI tS tR u) {a ci f b : Nat} (hk : fk ci f = 3) (hb : tR a f = some b) : xq q (fvl u a ci f) = .ref (q b) := by
  have h := hu.2 a f b hb
  unfold fvl
  rw [hk]
  show xq q (rvl (u.2.2 a f)) = _
  rw [h]
  rfl
theorem in_4 {p0 : Int32} (h : 0 ≤ p0.toInt ∧ p0.toInt ≤ 3) : vp_in p0 4 := by
  unfold vp_in
  rintro (h1 | h1)
  · have h2 : p0.toInt < 0 := by simpa using Int32.lt_iff_toInt_lt.mp h1
    omega
  · have h2 : 4 ≤ p0.toInt.toNat := h1
    omega
set_option maxHeartbeats 4000000 in
theorem f_Xw (l : Launch) (hlt : l.stackTraces = false) (dC : Nat → ClassId) (dI : Nat → Nat → Nat) (cA : Nat → ClassId) (q sv : Nat → Nat) (x : xM) (sz s3 : Nat) (p0 p1 : Int32) (hg : gI tS tR x) : vx_Met l (kY 103) (kW 103) { frames := 20, cells := 1, slots := 6, locals := 1000 } (va_Pc [.ref (q 0), .int p0, .int p1] (xPt dC dI cA q sv x sz s3)) (va_Qi (fun (_ : Int32) (u : xM) => wkU x u) (fun u t => xB dC dI cA q u t) (xA q sz)) (vx_X (fun (u : xM) => wkU x u) (fun E u t => E = xN ∧ xB dC dI cA q u t) (xA q sz)) 1 6 (xA q sz) := by
  refine vx_ofW (cc := cX11_walker) (maxL := 3) (ret := some .int) (ws' := alW) (by decide) rfl ?_
  intro p e s m args below meth c s₁ B hml hex hv
  obtain ⟨rfl, ⟨hsz, hP, hK, hqi, hG, hE⟩, hT⟩ := hv
  have hx := B.exec
  have hb := B.bytes
  have hr := B.returns
  have hts := atoms_spec (ws := kW 103) B.pre
  have hown : s.vm.findClass RX11 = some m.cls := findClass_of_methodNamed B.named
  have hlocks := B.notSynchronized
  subst hsz
  have hS : va_S (xA q s.heap.size) s.heap s.heap [] := va_S.rf
  have hl := lv_entry ([.ref (q 0), .int p0, .int p1]) (n := 3) (Nat.le_of_ble_eq_true rfl)
  rw [lg_entry_eq]
  generalize (lg_sl ([.ref (q 0), .int p0, .int p1]) ++ List.replicate (3 - (lg_sl ([.ref (q 0), .int p0, .int p1])).length) Slot.unset).toArray = ls at hl ⊢
  have hl : lv_has ls 3 [(0, .ref (q 0)), (1, .int p0), (2, .int p1)] := hl
  refine lv_aload_n hx hb dXw_0 rfl (lv_at hl 0 rfl) ?_
  refine lv_iload_n hx hb dXw_1 rfl (lv_at hl 1 rfl) ?_
  have hw : xw 8 110 [.ref 0, .int p0] x (fun rv u => wkU x u ∧ ∃ z : Int32, rv = some (.int z) ∧ (z = 0 ∨ (0 ≤ p0.toInt ∧ p0.toInt ≤ 3))) := by
    refine q200 8 (by decide) x [.ref 0, .int p0] _ hg trivial ⟨Or.inl ⟨rfl, 0, rfl, List.mem_cons_self⟩, aI_any p0, trivial⟩ gF_nil (fun rv m' hp => ⟨⟨hp.1, funext fun a => funext fun i => hp.2.1 a i rfl⟩, ?_⟩)
    obtain ⟨o, ho, h1, h2, -⟩ := hp.2.2
    rcases List.mem_cons.mp ho with rfl | ho
    · obtain ⟨y, e1, hy⟩ := h1
      obtain ⟨z, e2, h3, -⟩ := aH_int hy rfl
      have h3 : 0 ≤ z.toInt ∧ z.toInt ≤ 0 := h3
      exact ⟨z, by rw [e1, e2], Or.inl (Int32.toInt_inj.mp (by rw [show (0 : Int32).toInt = 0 by decide]; omega))⟩
    · obtain rfl := List.mem_singleton.mp ho
      obtain ⟨y, e1, hy⟩ := h1
      obtain ⟨z, e2, -⟩ := aH_int hy rfl
      exact ⟨z, by rw [e1, e2], Or.inr (h2.2.1.1 p0 rfl)⟩
  refine w_inv (k := 103) (cc := cX11_walker) (own := RX11) (j := 110) (a := 0) (d := 8) (as := [.int p0]) (rest := []) hx hb hml hts hown hK hG hE (fun k hk => Or.inl ⟨k, hk, rfl⟩) (fun a h => Or.inr h) hqi dXw_2 (by decide) (by decide +kernel) (by decide) (by decide) (by decide) (by decide) (by decide) rfl (by decide) hw hl.1 hP hS ⟨by decide, by decide⟩ (fun rv u H locs hp hP hS => ?_) ⟨Nat.zero_le _, Nat.zero_le _⟩
  obtain ⟨hu, z, rfl, hz⟩ := hp
  have thr : W p l e { frames := 20, cells := 1, slots := 6, locals := 1000 } s m (List.toArray [.ref (q 0), .int p0, .int p1]) below meth c H locs 0 0 (vx_MQ below (va_Qi (fun (_ : Int32) (u : xM) => wkU x u) (fun u t => xB dC dI cA q u t) (xA q s.heap.size)) (vx_X (fun (u : xM) => wkU x u) (fun E u t => E = xN ∧ xB dC dI cA q u t) (xA q s.heap.size)) (List.toArray [.ref (q 0), .int p0, .int p1]) s 1 6 (xA q s.heap.size)) (F0 m 17 ls []) :=
    x_throw hx hb hlt hown (hts _ (al_in (by decide +kernel) (by decide +kernel))) (hts _ (al_in (by decide +kernel) (by decide +kernel))) hT.2.1 (x_all (fun w hw => hts w (List.mem_cons_of_mem _ (xg_alW w hw))) hT) hT.1.1 hT.1.2 hS (hl.1.trans hml.symm) dXw_17 dXw_20 dXw_21 dXw_23 dXw_26 (fun x hx9 => (hex x hx9).elim) (Nat.le_of_ble_eq_true rfl) (Nat.le_of_ble_eq_true rfl) (Nat.le_of_ble_eq_true rfl) (Nat.le_of_ble_eq_true rfl) hlocks (fun t _ h1 h2 => ⟨u, hu, ⟨rfl, hP.kept (fun k w hk => h2 _ (hP k w hk).lt)⟩, Nat.le_trans hS.1 h1, fun a g1 g2 => (h2 a (Nat.lt_of_lt_of_le g1 hS.1)).trans (hS.2.1 a g1 g2)⟩) hS.2.2 (Nat.le_refl _) (Nat.le_refl _)
  have ret : ∀ v : Int32, W p l e { frames := 20, cells := 1, slots := 6, locals := 1000 } s m (List.toArray [.ref (q 0), .int p0, .int p1]) below meth c H locs 0 0 (vx_MQ below (va_Qi (fun (_ : Int32) (u : xM) => wkU x u) (fun u t => xB dC dI cA q u t) (xA q s.heap.size)) (vx_X (fun (u : xM) => wkU x u) (fun E u t => E = xN ∧ xB dC dI cA q u t) (xA q s.heap.size)) (List.toArray [.ref (q 0), .int p0, .int p1]) s 1 6 (xA q s.heap.size)) (F0 m 52 ls [.int v]) := by
    intro v
    refine W.widen (k := 1) (n := 6) (Nat.zero_le _) (Nat.zero_le _) ?_
    refine vx_ret ?_
    exact W.iret (v := v) hx hb hr (fun t ht hW => ⟨⟨v, u, rfl, hu, by show va_P _ _ _ t.heap; rw [ht]; exact hP⟩, hS.F ht⟩) hS.2.2 dXw_52
  refine lv_if_eq (tgt := 17) hx hb dXw_5 (by decide) (fun _ => thr) (fun c1 => ?_)
  have hz := hz.resolve_left c1
  refine lv_iload_n hx hb dXw_8 rfl (lv_at hl 2 rfl) ?_
  refine lv_if_lt (tgt := 17) hx hb dXw_9 (by decide) (fun _ => thr) (fun _ => ?_)
  refine lv_iload_n hx hb dXw_12 rfl (lv_at hl 2 rfl) ?_
  refine lv_iconst (v := 1) hx hb dXw_13 (by decide) ?_
  refine lv_icmp_le (tgt := 27) hx hb dXw_14 (by decide) (fun _ => ?_) (fun _ => thr)
  refine lv_iload_n hx hb dXw_27 rfl (lv_at hl 2 rfl) ?_
  refine lv_if_ne (tgt := 43) hx hb dXw_28 (by decide) (fun _ => ?_) (fun _ => ?_)
  · refine lv_aload_n hx hb dXw_43 rfl (lv_at hl 0 rfl) ?_
    refine w_get (k := 103) (cc := cX11_walker) (ci := 11) (f := 9) (a := 0) hx hb hts hown hK hG dXw_44 (by decide +kernel) (by decide) hP ?_
    rw [xq_fv hu.1 (b := 89) (by decide) (by decide)]
    refine w_get (k := 103) (cc := cX11_walker) (ci := 6) (f := 6) (a := 89) hx hb hts hown hK hG dXw_47 (by decide +kernel) (by decide) hP ?_
    rw [xq_fv hu.1 (b := 93) (by decide) (by decide)]
    refine lv_iload_n hx hb dXw_50 rfl (lv_at hl 1 rfl) ?_
    have ha := wd_at (q := q) (cA := cA) (m := u) (show 93 < 335 by decide)
    rw [en_0 (x := 0) (n := 4) (by decide)] at ha
    exact va_iald (D := (dC, dI)) hx hb hK hP 93 0 ha rfl (in_4 hz) dXw_51 (ret _)
  · refine lv_aload_n hx hb dXw_31 rfl (lv_at hl 0 rfl) ?_
    refine w_get (k := 103) (cc := cX11_walker) (ci := 11) (f := 9) (a := 0) hx hb hts hown hK hG dXw_32 (by decide +kernel) (by decide) hP ?_
    rw [xq_fv hu.1 (b := 89) (by decide) (by decide)]
    refine w_get (k := 103) (cc := cX11_walker) (ci := 6) (f := 5) (a := 89) hx hb hts hown hK hG dXw_35 (by decide +kernel) (by decide) hP ?_
    rw [xq_fv hu.1 (b := 92) (by decide) (by decide)]
    refine lv_iload_n hx hb dXw_38 rfl (lv_at hl 1 rfl) ?_
    have ha := wd_at (q := q) (cA := cA) (m := u) (show 92 < 335 by decide)
    rw [en_0 (x := 0) (n := 4) (by decide)] at ha
    exact va_iald (D := (dC, dI)) hx hb hK hP 92 0 ha rfl (in_4 hz) dXw_39 (lv_goto (tgt := 52) hx hb dXw_40 (by decide) (ret _))
theorem al_wW {w : Cond} (h : w ∈ lw_tbl) (g : goodWord w = true) : w ∈ wW := List.mem_cons_of_mem _ (List.mem_filter.mpr ⟨h, g⟩)
theorem wW_103 : GoodIn wW (kW 103) := by
  intro w hw
  rcases List.mem_cons.mp hw with e | hw
  · rw [e]
    exact ⟨al_wW (cd_in (by decide)) rfl, Or.inl rfl⟩
  · exact ⟨List.mem_cons_of_mem _ hw, good_of_word (good_al hw)⟩
theorem gI_J {m : xM} {a i : Nat} {v : Int64} (h : gI tS tR m) : gI tS tR (mJ m a i v) := ⟨h.1, h.2⟩
set_option maxHeartbeats 4000000 in
theorem f_Lw (l : Launch) (hlt : l.stackTraces = false) (dC : Nat → ClassId) (dI : Nat → Nat → Nat) (cA : Nat → ClassId) (q sv : Nat → Nat) (x : xM) (sz s3 : Nat) (p0 p1 : Int32) (hg : gI tS tR x) : vx_Met l yL_walker wW { frames := 22, cells := 1, slots := 6, locals := 1200 } (va_Pc [.ref (q 0), .int p0, .int p1, .ref (q 334)] (xPt dC dI cA q sv x sz s3)) (va_Qi (fun (_ : Int32) (u : xM) => wkU x u) (fun u t => xB dC dI cA q u t) (xA q sz)) (vx_X (fun (_ : Unit) => False) (fun _ _ _ => True) (xA q sz)) 1 6 (xA q sz) := by
  refine vx_ofWH (cc := cL_walker) (maxL := 5) (ret := some .int) (hh := [(0, 10, 13, 13)]) (ws' := alW) (by decide) rfl ?_
  intro p e s m args below meth c s₁ B hml hv
  obtain ⟨rfl, ⟨hsz, hP, hK, hqi, hG, hE⟩, hT⟩ := hv
  have hx := B.exec
  have hb := B.bytes
  have hr := B.returns
  have hts := atoms_spec (ws := wW) B.pre
  have hown : s.vm.findClass RL = some m.cls := findClass_of_methodNamed B.named
  have hlocks := B.notSynchronized
  have hex : c.exceptionTable.toList = tableOf [(0, 10, 13, 13)] := vx_table (x := yL_walker) B (hts _ List.mem_cons_self)
  subst hsz
  have hS : va_S (xA q s.heap.size) s.heap s.heap [] := va_S.rf
  have hl := lv_entry ([.ref (q 0), .int p0, .int p1, .ref (q 334)]) (n := 5) (Nat.le_of_ble_eq_true rfl)
  rw [lg_entry_eq]
  generalize (lg_sl ([.ref (q 0), .int p0, .int p1, .ref (q 334)]) ++ List.replicate (5 - (lg_sl ([.ref (q 0), .int p0, .int p1, .ref (q 334)])).length) Slot.unset).toArray = ls at hl ⊢
  have hl : lv_has ls 5 [(0, .ref (q 0)), (1, .int p0), (2, .int p1), (3, .ref (q 334))] := hl
  refine lv_aload_n hx hb dLw_0 rfl (lv_at hl 3 rfl) ?_
  refine lv_iconst (v := 0) hx hb dLw_1 (by decide) ?_
  refine lv_aload_n hx hb dLw_2 rfl (lv_at hl 0 rfl) ?_
  refine lv_iload_n hx hb dLw_3 rfl (lv_at hl 1 rfl) ?_
  refine lv_iload_n hx hb dLw_4 rfl (lv_at hl 2 rfl) ?_
  have hqA : ∀ k, k < 335 → xA q s.heap.size (q k) := fun k hk => Or.inl ⟨k, hk, rfl⟩
  have hA : ∀ a, s.heap.size ≤ a → xA q s.heap.size a := fun a h => Or.inr h
  have hD : va_D (xA q s.heap.size) (wd q cA x) := wd_D hqi hqA
  have he := wd_at (q := q) (cA := cA) (m := x) (show 0 < 335 by decide)
  rw [en_3 (x := 11) (n := kNf 11) (by decide)] at he
  have hf := x_free hqA hS hA
  obtain ⟨-, w2, w3⟩ := mw_of (j := 103) (by decide)
  obtain ⟨w4, w5⟩ := w2 (by decide)
  refine vx_calli (vx_runV (As := [.int p0, .int p1]) (rest := [.int 0, .ref (q 334)]) (C := RX11) ⟨hx, hb, hml, hown, hts⟩ (f_Xw l hlt dC dI cA q sv x s.heap.size s3 p0 p1 hg)
    ⟨callB_of 2 hts wW_103 rfl rfl rfl (hts _ (al_wW w3 rfl)) (hts _ (al_wW (by decide +kernel) rfl)) (md_of (by decide)) ⟨by decide, by decide⟩, hts _ (al_wW w4 rfl), hts _ (al_wW (w5 (by decide)) rfl)⟩
    ⟨xPt_blind, va_recv hK hP (vw_of (ci := 11) (by decide)) he, fun U hU hW => ⟨rfl, xP_use hU hW hP hK hqi hG hS hf hE, tP_use hT hS hf hU hW⟩⟩ rfl rfl hl.1 rfl (lv_room (Nat.le_of_ble_eq_true rfl)) dLw_5 ⟨Nat.le_of_ble_eq_true rfl, Nat.le_of_ble_eq_true rfl⟩) hS (fun q _ h => hf q h) hf (fun q _ h => hf q h)
    (fun E ce q9 u t H1 locs ht hvm hu hw hz1 hk1 hS hce hcv hcl => ?_) (fun r u t H1 locs ht hvm hu hB hz1 hk1 hS => ?_)
  · obtain ⟨rfl, hB⟩ := hw
    have hP1 : va_P (dC, dI) vwCl (wd q cA u) H1 := by rw [← ht]; exact hB
    refine vx_catch (own := RL) (name := xN) (E := xN) hown [] { startPc := 0, endPc := 10, handlerPc := 13, catchType := 13 } [] (by rw [hex]; rfl) (fun z hz => nomatch hz) (by decide) (by decide) (hts (.classLink RL 13 xN) (al_wW (by decide +kernel) rfl)) (va_Nw.use rfl hT.2.2.1) hce hcv hcl ?_
    refine W.eq (g2 := F0 m 13 ls [.ref q9]) rfl ?_
    refine vx_ret ?_
    refine lv_astore (lv' := [(4, .ref q9), (0, .ref (q 0)), (1, .int p0), (2, .int p1), (3, .ref (q 334))]) hx hb dLw_13 hl (by decide) rfl (fun ls hl => ?_)
    refine lv_iconst (v := 1) hx hb dLw_15 (by decide) ?_
    refine W.widen (k := 1) (n := 6) (Nat.le_of_ble_eq_true rfl) (Nat.le_of_ble_eq_true rfl) ?_
    exact W.iret (v := 1) hx hb hr (fun t ht hW => ⟨⟨1, u, rfl, hu, by show va_P _ _ _ t.heap; rw [ht]; exact hP1⟩, hS.F ht⟩) hS.2.2 dLw_16
  · have hP1 : va_P (dC, dI) vwCl (wd q cA u) H1 := by rw [← ht]; exact hB
    refine lv_i2l (v := r.toInt64) hx hb dLw_8 rfl ?_
    have ha1 : lay 334 = (1, 4, 1) := by decide
    have ha2 := wd_at (q := q) (cA := cA) (m := u) (show 334 < 335 by decide)
    rw [en_1 ha1] at ha2
    refine va_last (D := (dC, dI)) hx hb hK hP1 (wd_D hqi hqA) hS 334 4 ha2 rfl (i := 0) (show vp_in 0 1 from by unfold vp_in; decide) dLw_9 (fun H2 locs2 hP2 _ hS2 => ?_)
    rw [ar_setL ha1 (by decide)] at hP2
    refine vx_ret ?_
    refine lv_goto (tgt := 17) hx hb dLw_10 (by decide) ?_
    refine lv_iconst (v := 0) hx hb dLw_17 (by decide) ?_
    refine W.widen (k := 1) (n := 6) (Nat.le_of_ble_eq_true rfl) (Nat.le_of_ble_eq_true rfl) ?_
    exact W.iret (v := 0) hx hb hr (fun t ht hW => ⟨⟨0, _, rfl, ⟨gI_J hu.1, hu.2⟩, by show va_P _ _ _ t.heap; rw [ht]; exact hP2⟩, hS2.F ht⟩) hS2.2.2 dLw_18
