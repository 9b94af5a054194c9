set_option maxRecDepth 20000 in
theorem dX0_init_15 : decode cX0_init 15 = .ok (.iload_n 1, 1) := by decide +kernel
set_option maxRecDepth 20000 in
theorem dX0_init_16 : decode cX0_init 16 = .ok (.bipush 40, 2) := by decide +kernel
set_option maxRecDepth 20000 in
theorem dX0_init_18 : decode cX0_init 18 = .ok (.if_icmp .ge 22, 3) := by decide +kernel
set_option maxRecDepth 20000 in
theorem dX0_init_21 : decode cX0_init 21 = .ok (.aload_n 0, 1) := by decide +kernel
set_option maxRecDepth 20000 in
theorem dX0_init_22 : decode cX0_init 22 = .ok (.getfield 11, 3) := by decide +kernel
set_option maxRecDepth 20000 in
theorem dX0_init_25 : decode cX0_init 25 = .ok (.iload_n 1, 1) := by decide +kernel
set_option maxRecDepth 20000 in
theorem dX0_init_26 : decode cX0_init 26 = .ok (.new 9, 3) := by decide +kernel
set_option maxRecDepth 20000 in
theorem dX0_init_29 : decode cX0_init 29 = .ok (.dup, 1) := by decide +kernel
set_option maxRecDepth 20000 in
theorem dX0_init_30 : decode cX0_init 30 = .ok (.invokespecial 17, 3) := by decide +kernel
set_option maxRecDepth 20000 in
theorem dX0_init_33 : decode cX0_init 33 = .ok (.aastore, 1) := by decide +kernel
set_option maxRecDepth 20000 in
theorem dX0_init_34 : decode cX0_init 34 = .ok (.iinc 1 1, 3) := by decide +kernel
set_option maxRecDepth 20000 in
theorem dX0_init_37 : decode cX0_init 37 = .ok (.goto (-22), 3) := by decide +kernel
set_option maxRecDepth 20000 in
theorem dX0_init_0 : decode cX0_init 0 = .ok (.aload_n 0, 1) := by decide +kernel
set_option maxRecDepth 20000 in
theorem dX0_init_1 : decode cX0_init 1 = .ok (.invokespecial 3, 3) := by decide +kernel
set_option maxRecDepth 20000 in
theorem dX0_init_4 : decode cX0_init 4 = .ok (.aload_n 0, 1) := by decide +kernel
set_option maxRecDepth 20000 in
theorem dX0_init_5 : decode cX0_init 5 = .ok (.bipush 40, 2) := by decide +kernel
set_option maxRecDepth 20000 in
theorem dX0_init_7 : decode cX0_init 7 = .ok (.anewarray 9, 3) := by decide +kernel
set_option maxRecDepth 20000 in
theorem dX0_init_10 : decode cX0_init 10 = .ok (.putfield 11, 3) := by decide +kernel
set_option maxRecDepth 20000 in
theorem dX0_init_13 : decode cX0_init 13 = .ok (.iconst 0, 1) := by decide +kernel
set_option maxRecDepth 20000 in
theorem dX0_init_14 : decode cX0_init 14 = .ok (.istore_n 1, 1) := by decide +kernel
set_option maxRecDepth 20000 in
theorem dX0_init_40 : decode cX0_init 40 = .ok (.return_, 1) := by decide +kernel
def vs_f_X0_init : List Cond := .code yX0_init cX0_init 2 none :: ([.code objectInit ⟨#[0xb1]⟩ 1 none, .fieldLink RX0 11 "WallChapels$Acts" "kept" "[LWallChapels$Scene;", .classLink RX0 9 "WallChapels$Scene", .instantiable RX6 7, .initialized RX6, .instanceMethod yX6_init, .methodLink RX6 3 objectInit, .instanceMethod objectInit, .arrayClass .int, .fieldLink RX6 9 "WallChapels$Scene" "marks" "[I", .fieldLink RX6 15 "WallChapels$Scene" "lamps" "[I", .fieldLink RX6 18 "WallChapels$Scene" "homes" "[I", .fieldLink RX6 21 "WallChapels$Scene" "faith" "[I", .code yX6_init cX6_init 1 none, .methodLink RX0 3 objectInit] ++ (u_ws RX0 TX0 3 ++ (u_ws RX6 TX6 7)))
theorem vs_f_X0_init_uX0 : ∀ w ∈ u_ws RX0 TX0 3, w ∈ vs_f_X0_init := fun _ h => List.mem_cons_of_mem _ (List.mem_append_right _ (List.mem_append_left _ h))
theorem vs_f_X0_init_uX6 : ∀ w ∈ u_ws RX6 TX6 7, w ∈ vs_f_X0_init := fun _ h => List.mem_cons_of_mem _ (List.mem_append_right _ (List.mem_append_right _ (h)))
set_option maxRecDepth 20000 in
theorem g_f_X0_init_f_X6_init : GoodIn vs_f_X0_init vs_f_X6_init := goodIn_r _ [14, 1, 7, 8, 9, 10, 11, 12, 13, 19, 20, 21, 22, 23, 24, 25] (by decide +kernel) (by decide +kernel)
set_option maxHeartbeats 4000000 in
set_option maxRecDepth 100000 in
theorem f_X0_init_loop {p : Program} {l : Launch} {e : Env} {R : Room} {s : State} {m : MethodId} {args : Array Value} {below : List Frame} {meth : Method} {c : Code} {H0 : Heap} {Q : State → Prop} {dC : Nat → ClassId} {dI : Nat → Nat → Nat} {A : Nat → Prop} (h qk : Nat) (ck : ClassId) (hx : p.tables.exec = Jvm.exec) (hb : c.code = cX0_init) (hml : c.maxLocals = 2) (hts : ∀ w ∈ vs_f_X0_init, w.before args s = true) (hown : s.vm.findClass RX0 = some m.cls) (hG : gxP s) (hA : ∀ q : Nat, H0.size ≤ q → A q) (hK : va_K (dC, dI) vwCl [(ck, .object "WallChapels$Scene")] s) (hRc : 201 ≤ R.cells) (hRs : 1440 ≤ R.slots) (hRf : 1 + 1 ≤ R.frames) (hRl : 32 ≤ R.locals)
    (kk : ∀ (H : Heap) (locs : List Loc) (ls : Array Slot) (f : Nat → Option Nat), va_P (dC, dI) vwCl [(h, .inr (0, [.ref qk, .int 0, .int 0])), (qk, .inl (ck, 40, .inr (.inr (.inr (.inr f)))))] H → va_D A [(h, .inr (0, [.ref qk, .int 0, .int 0])), (qk, .inl (ck, 40, .inr (.inr (.inr (.inr f)))))] → va_S A H0 H locs → lv_has ls 2 [(1, .int 40), (0, .ref h)] → W p l e R s m args below meth c H locs 201 1440 Q (F0 m 40 ls [])) :
    ∀ (n i : Nat) (x1 : Int32), i ≤ 40 → 41 ≤ i + n → x1 = nI i → ∀ (f : Nat → Option Nat) (H : Heap) (locs : List Loc) (ls : Array Slot), va_P (dC, dI) vwCl [(h, .inr (0, [.ref qk, .int 0, .int 0])), (qk, .inl (ck, 40, .inr (.inr (.inr (.inr f)))))] H → va_D A [(h, .inr (0, [.ref qk, .int 0, .int 0])), (qk, .inl (ck, 40, .inr (.inr (.inr (.inr f)))))] → va_S A H0 H locs → lv_has ls 2 [(1, .int x1), (0, .ref h)] → W p l e R s m args below meth c H locs (1 + 5 * i) (40 + 35 * i) Q (F0 m 15 ls []) := by
  have hiX0 : ∀ w ∈ u_ws RX0 TX0 3, w ∈ vs_f_X0_init := vs_f_X0_init_uX0
  have hiX6 : ∀ w ∈ u_ws RX6 TX6 7, w ∈ vs_f_X0_init := vs_f_X0_init_uX6
  intro n
  induction n with
  | zero => intro i x1 h1 h2; exact absurd h2 (by omega)
  | succ n ih =>
    intro i x1 hi hin ex1 f H locs ls hP hD hS hl
    refine lv_iload_n hx hb dX0_init_15 rfl (lv_at hl 0 rfl) ?_
    refine lv_bipush (v := 40) hx hb dX0_init_16 (by decide) ?_
    refine lv_icmp_ge (tgt := 40) hx hb dX0_init_18 (by decide) (fun c_9 => ?_) (fun c_9 => ?_)
    · have hi40 : i = 40 := by
        rcases Nat.lt_or_ge i 40 with q | q
        · exact absurd c_9 (by rw [ex1]; exact nI_ge (b := 40) q (by decide))
        · omega
      subst hi40
      subst ex1
      exact kk H locs ls f hP hD hS hl
    · have hlt : i < 40 := by
        rcases Nat.lt_or_ge i 40 with q | q
        · exact q
        · exact absurd (by rw [ex1]; exact nI_le (a := 40) q (by omega)) c_9
      have h_in : vp_in x1 40 := by rw [ex1]; exact vp_in_nI hlt (by decide)
      have hRl9 : 8 + (1 + 11) + 12 ≤ R.locals := by omega
      have hc1 : 1 + 5 * i + 1 ≤ R.cells := by omega
      have hc2 : 40 + 35 * i + 7 ≤ R.slots := by omega
      have hc3 : 1 + 5 * i + 1 + 4 ≤ R.cells := by omega
      have hc4 : 40 + 35 * i + 7 + 24 ≤ R.slots := by omega
      refine lv_aload_n hx hb dX0_init_21 rfl (lv_at hl 1 rfl) ?_
      refine va_get (D := (dC, dI)) (ci := 0) (v := .ref qk) (C := RX0) (T := TX0) (N := 3) hx hb hts hiX0 hown hK hP 0 rfl rfl 0 (by decide) (hts (.fieldLink RX0 11 "WallChapels$Acts" "kept" "[LWallChapels$Scene;") (by decide +kernel)) (fun _ h9 => h9) rfl dX0_init_22 ?_
      refine lv_iload_n hx hb dX0_init_25 rfl (lv_at hl 0 rfl) ?_
      refine va_new (ci := 6) (fs := [.int 0, .int 0, .int 0, .null, .null, .null, .null]) (C := RX6) (T := TX6) (N := 7) hx hb hts hiX6 tyX6 tyX6_ok hown (hts (.classLink RX0 9 "WallChapels$Scene") (by decide +kernel)) (hts (.instantiable RX6 7) (by decide +kernel)) (hts (.initialized RX6) (by decide +kernel)) hK hP hD hS hA rfl (fun j hj => by rcases (show j = 0 ∨ j = 1 ∨ j = 2 ∨ j = 3 ∨ j = 4 ∨ j = 5 ∨ j = 6 by omega) with rfl | rfl | rfl | rfl | rfl | rfl | rfl <;> rfl) hc1 hc2 dX0_init_26 (fun q1 H hP hD hS => ?_)
      have hP : va_P (dC, dI) vwCl [(h, .inr (0, [.ref qk, .int 0, .int 0])), (qk, .inl (ck, 40, .inr (.inr (.inr (.inr f))))), (q1, .inr (6, [.int 0, .int 0, .int 0, .null, .null, .null, .null]))] H := hP
      have hD : va_D A [(h, .inr (0, [.ref qk, .int 0, .int 0])), (qk, .inl (ck, 40, .inr (.inr (.inr (.inr f))))), (q1, .inr (6, [.int 0, .int 0, .int 0, .null, .null, .null, .null]))] := hD
      refine W.widen (k := 1 + 5 * i + 1) (n := 40 + 35 * i + 7) (by omega) (by omega) ?_
      refine lv_dup hx hb dX0_init_29 rfl ?_
      have hPc := hP.sub (ws' := [(q1, .inr (6, [.int 0, .int 0, .int 0, .null, .null, .null, .null]))]) [2] rfl
      have hDc := hD.sub (ws' := [(q1, .inr (6, [.int 0, .int 0, .int 0, .null, .null, .null, .null]))]) [2] (by decide) rfl
      have hKc := hK.sub (tys' := []) [] rfl
      have hFc := va_free (wc := [(q1, .inr (6, [.int 0, .int 0, .int 0, .null, .null, .null, .null]))]) hD hS hA [2] rfl
      refine va_callv (va_runIN (As := []) (rest := [.ref q1, .int x1, .ref qk]) ⟨hx, hb, hml, hown, hts⟩ (f_X6_init l dC dI H.size q1) ⟨va_cnB 0 hts g_f_X0_init_f_X6_init rfl rfl rfl (gx_n hG 56 rfl) (hts (.initialized RX6) (by decide +kernel)) (by decide +kernel) ⟨hRf, hRl9⟩, rfl, (hts (.instanceMethod yX6_init) (by decide +kernel))⟩ ⟨cW_blind, fun U hU hW => ⟨rfl, cW_use hU hW hPc hKc hDc hG⟩⟩ rfl rfl hl.1 rfl (lv_room (Nat.le_of_ble_eq_true rfl)) dX0_init_30 ⟨hc3, hc4⟩) hS (fun q _ h => hFc q h) hFc (fun u t H1 locs ht hvm hw hB hz1 hk1 hS => ?_)
      obtain ⟨a3_2, a4_2, a5_2, a6_2, hP1, hK1, hD1⟩ := hB
      rw [ht] at hP1
      have hK1 := va_K.moved hvm.symm hK1
      obtain ⟨hP, hD⟩ := va_join (wr := [(h, .inr (0, [.ref qk, .int 0, .int 0])), (qk, .inl (ck, 40, .inr (.inr (.inr (.inr f)))))]) (w1 := [(q1, .inr (6, [.int 0, .int 0, .int 0, .ref a3_2, .ref a4_2, .ref a5_2, .ref a6_2]))]) hP hD [2] [0, 1] rfl rfl (by decide) (by decide) hk1 hFc hP1 hD1
      generalize H1 = H at hP hS ⊢
      have hP : va_P (dC, dI) vwCl [(h, .inr (0, [.ref qk, .int 0, .int 0])), (qk, .inl (ck, 40, .inr (.inr (.inr (.inr f))))), (q1, .inr (6, [.int 0, .int 0, .int 0, .ref a3_2, .ref a4_2, .ref a5_2, .ref a6_2]))] H := hP
      have hD : va_D A [(h, .inr (0, [.ref qk, .int 0, .int 0])), (qk, .inl (ck, 40, .inr (.inr (.inr (.inr f))))), (q1, .inr (6, [.int 0, .int 0, .int 0, .ref a3_2, .ref a4_2, .ref a5_2, .ref a6_2]))] := hD
      refine W.widen (k := 1 + 5 * i + 5) (n := 40 + 35 * i + 31) (by omega) (by omega) ?_
      refine va_astq (D := (dC, dI)) hx hb hK hP hD hS 1 0 2 6 rfl rfl rfl rfl (i := x1) h_in dX0_init_33 (fun H locs hP hD hS => ?_)
      have hP : va_P (dC, dI) vwCl [(h, .inr (0, [.ref qk, .int 0, .int 0])), (qk, .inl (ck, 40, .inr (.inr (.inr (.inr (va_up f x1.toNatClampNeg (some q1))))))), (q1, .inr (6, [.int 0, .int 0, .int 0, .ref a3_2, .ref a4_2, .ref a5_2, .ref a6_2]))] H := hP
      have hD : va_D A [(h, .inr (0, [.ref qk, .int 0, .int 0])), (qk, .inl (ck, 40, .inr (.inr (.inr (.inr (va_up f x1.toNatClampNeg (some q1))))))), (q1, .inr (6, [.int 0, .int 0, .int 0, .ref a3_2, .ref a4_2, .ref a5_2, .ref a6_2]))] := hD
      have hP := hP.sub (ws' := [(h, .inr (0, [.ref qk, .int 0, .int 0])), (qk, .inl (ck, 40, .inr (.inr (.inr (.inr (va_up f x1.toNatClampNeg (some q1)))))))]) [0, 1] rfl
      have hD := hD.sub (ws' := [(h, .inr (0, [.ref qk, .int 0, .int 0])), (qk, .inl (ck, 40, .inr (.inr (.inr (.inr (va_up f x1.toNatClampNeg (some q1)))))))]) [0, 1] (by decide) rfl
      obtain ⟨x2, ex2⟩ : ∃ y : Int32, y = x1 + 1 := ⟨_, rfl⟩
      refine lv_iinc (v := x2) (lv' := [(1, .int x2), (0, .ref h)]) hx hb dX0_init_34 hl (k := 0) rfl (by rw [ex2]; rfl) (by decide) rfl (fun ls hl => ?_)
      refine lv_goto (tgt := 15) hx hb dX0_init_37 (by decide) ?_
      refine W.widen (k := 1 + 5 * (i + 1)) (n := 40 + 35 * (i + 1)) (by omega) (by omega) ?_
      exact ih (i + 1) x2 (by omega) (by omega) (by rw [ex2, ex1]; exact nI_1 i) _ H locs ls hP hD hS hl
set_option maxHeartbeats 4000000 in
set_option maxRecDepth 100000 in
theorem f_X0_init (l : Launch) (dC : Nat → ClassId) (dI : Nat → Nat → Nat) (sz : Nat) (h : Nat) : Met l yX0_init vs_f_X0_init ({ frames := 2, cells := 201, slots := 1440, locals := 32 }) (va_Pc [.ref h] (cW dC dI [(h, .inr (0, [.null, .int 0, .int 0]))] [] sz)) (va_Qv (fun (_ : Unit) => True) (fun (_ : Unit) (t : State) => ∃ a0 : Nat, cB dC dI (va_A [(h, .inr (0, [.null, .int 0, .int 0]))] sz) [(h, .inr (0, [.ref a0, .int 0, .int 0]))] [] t) (va_A [(h, .inr (0, [.null, .int 0, .int 0]))] sz)) 201 1440 (va_A [(h, .inr (0, [.null, .int 0, .int 0]))] sz) := by
  refine Met.ofW (cc := cX0_init) (maxL := 2) (ret := none) (by decide) rfl ?_
  intro p e s m args below meth c s₁ B hml hv
  obtain ⟨rfl, hsz, hP, hK, hD0, hG⟩ := hv
  have hx := B.exec
  have hb := B.bytes
  have hr := B.returns
  have hts := atoms_spec (ws := vs_f_X0_init) B.pre
  have hown : s.vm.findClass RX0 = some m.cls := findClass_of_methodNamed B.named
  have hlocks := B.notSynchronized
  have hin : meth.name = "<init>" := (name_of_methodNamed B.named B.method).1
  have hiX0 : ∀ w ∈ u_ws RX0 TX0 3, w ∈ vs_f_X0_init := vs_f_X0_init_uX0
  have hiX6 : ∀ w ∈ u_ws RX6 TX6 7, w ∈ vs_f_X0_init := vs_f_X0_init_uX6
  subst hsz
  have hD := hD0.self (sz := s.heap.size)
  generalize hAe : va_A [(h, .inr (0, [.null, .int 0, .int 0]))] s.heap.size = A at hD ⊢
  have hA : ∀ q : Nat, s.heap.size ≤ q → A q := fun q h => by rw [← hAe]; exact Or.inr h
  have hS : va_S A s.heap s.heap [] := va_S.rf
  have hP : va_P (dC, dI) vwCl [(h, .inr (0, [.null, .int 0, .int 0]))] s.heap := hP
  have hl := lv_entry ([.ref h]) (n := 2) (Nat.le_of_ble_eq_true rfl)
  rw [lg_entry_eq]
  generalize (lg_sl ([.ref h]) ++ List.replicate (2 - (lg_sl ([.ref h])).length) Slot.unset).toArray = ls at hl ⊢
  have hl : lv_has ls 2 [(0, .ref h)] := hl
  refine lv_aload_n hx hb dX0_init_0 rfl (lv_at hl 0 rfl) ?_
  refine W.objInit hx hb hown (hts (.methodLink RX0 3 objectInit) (by decide +kernel)) (hts (.instanceMethod objectInit) (by decide +kernel)) (hts (.code objectInit ⟨#[0xb1]⟩ 1 none) (List.mem_of_getElem? (i := 1) rfl)) rfl (by rw [hml]; exact hl.1) rfl dX0_init_1 (Nat.le_of_ble_eq_true rfl) (Nat.le_of_ble_eq_true rfl) ?_
  refine W.eq (g2 := F0 m 4 ls []) rfl ?_
  refine lv_aload_n hx hb dX0_init_4 rfl (lv_at hl 0 rfl) ?_
  refine lv_bipush (v := 40) hx hb dX0_init_5 (by decide) ?_
  refine va_newq (N' := 40) hx hb hown (hts (.classLink RX0 9 "WallChapels$Scene") (by decide +kernel)) hG.2.2 hK hP hD hS hA (by decide) (by decide) (Nat.le_of_ble_eq_true rfl) (Nat.le_of_ble_eq_true rfl) (Nat.le_of_ble_eq_true rfl) dX0_init_7 (fun qk ck H hK hP hD hS => ?_)
  have hP : va_P (dC, dI) vwCl [(h, .inr (0, [.null, .int 0, .int 0])), (qk, .inl (ck, 40, .inr (.inr (.inr (.inr (fun _ => none))))))] H := hP
  have hD : va_D A [(h, .inr (0, [.null, .int 0, .int 0])), (qk, .inl (ck, 40, .inr (.inr (.inr (.inr (fun _ => none))))))] := hD
  have hK : va_K (dC, dI) vwCl [(ck, .object "WallChapels$Scene")] s := hK
  refine W.widen (k := 1) (n := 40) (Nat.le_of_ble_eq_true rfl) (Nat.le_of_ble_eq_true rfl) ?_
  refine va_putF (D := (dC, dI)) (ci := 0) (v := .ref qk) (ty := .array (.object "WallChapels$Scene")) (C := RX0) (T := TX0) (N := 3) hx hb hts hiX0 tyX0 tyX0_ok nmX0 hown hK hP hD hS 0 rfl rfl 0 (by decide) (hts (.fieldLink RX0 11 "WallChapels$Acts" "kept" "[LWallChapels$Scene;") (by decide +kernel)) (fun _ h9 => h9) rfl hin rfl (by decide +kernel) rfl rfl (Nat.le_of_ble_eq_true rfl) dX0_init_10 (fun H locs hP hD hS => ?_)
  have hP : va_P (dC, dI) vwCl [(h, .inr (0, [.ref qk, .int 0, .int 0])), (qk, .inl (ck, 40, .inr (.inr (.inr (.inr (fun _ => none))))))] H := hP
  have hD : va_D A [(h, .inr (0, [.ref qk, .int 0, .int 0])), (qk, .inl (ck, 40, .inr (.inr (.inr (.inr (fun _ => none))))))] := hD
  refine lv_iconst (v := 0) hx hb dX0_init_13 (by decide) ?_
  refine lv_istore_n (lv' := [(1, .int 0), (0, .ref h)]) hx hb dX0_init_14 rfl hl (by decide) rfl (fun ls hl => ?_)
  refine f_X0_init_loop h qk ck hx hb hml hts hown hG hA hK (Nat.le_of_ble_eq_true rfl) (Nat.le_of_ble_eq_true rfl) (Nat.le_of_ble_eq_true rfl) (Nat.le_of_ble_eq_true rfl) (fun H locs ls f hP hD hS hl => ?_) 41 0 0 (Nat.zero_le _) (by omega) nI_0.symm _ H locs ls hP hD hS hl
  have hP9 := hP.sub (ws' := [(h, .inr (0, [.ref qk, .int 0, .int 0]))]) [0] rfl
  have hD9 := hD.sub (ws' := [(h, .inr (0, [.ref qk, .int 0, .int 0]))]) [0] (by decide) rfl
  have hK9 := hK.sub (tys' := []) [] rfl
  exact W.vret hx hb hr (fun t ht hW => ⟨⟨(), rfl, trivial, ⟨qk, by rw [ht]; exact hP9, va_K.moved hW.alike hK9, hD9⟩⟩, hS.F ht⟩) hS.2.2 dX0_init_40
