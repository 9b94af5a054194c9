set_option maxRecDepth 20000 in
theorem dX11_walker_0 : decode cX11_walker 0 = .ok (.aload_n 0, 1) := by decide +kernel
set_option maxRecDepth 20000 in
theorem dX11_walker_1 : decode cX11_walker 1 = .ok (.iload_n 1, 1) := by decide +kernel
set_option maxRecDepth 20000 in
theorem dX11_walker_2 : decode cX11_walker 2 = .ok (.invokevirtual 196, 3) := by decide +kernel
set_option maxRecDepth 20000 in
theorem dX11_walker_5 : decode cX11_walker 5 = .ok (.ifCond .eq 12, 3) := by decide +kernel
set_option maxRecDepth 20000 in
theorem dX11_walker_17 : decode cX11_walker 17 = .ok (.new 199, 3) := by decide +kernel
set_option maxRecDepth 20000 in
theorem dX11_walker_20 : decode cX11_walker 20 = .ok (.dup, 1) := by decide +kernel
set_option maxRecDepth 20000 in
theorem dX11_walker_21 : decode cX11_walker 21 = .ok (.ldc 201, 2) := by decide +kernel
set_option maxRecDepth 20000 in
theorem dX11_walker_23 : decode cX11_walker 23 = .ok (.invokespecial 203, 3) := by decide +kernel
set_option maxRecDepth 20000 in
theorem dX11_walker_26 : decode cX11_walker 26 = .ok (.athrow, 1) := by decide +kernel
def vs_f_X11_walkerA : List Cond := .code yX11_walker cX11_walker 3 (some .int) :: ([.initialized RX11, .instanceMethod yX11_isWalker, .selects RX11 yX11_isWalker yX11_isWalker, .fieldLink RX11 19 "WallChapels" "town" "LWallChapels$Plan;", .code yX11_isWalker cX11_isWalker 2 (some .boolean), .methodLink RX11 196 yX11_isWalker, .classLink RX11 199 "java/util/NoSuchElementException", .initialized "java/util/NoSuchElementException"] ++ (u_ws RX11 TX11 17 ++ (u_ws RX5 TX5 8)))
def vs_f_X11_walker : List Cond := vs_f_X11_walkerA ++ xg
theorem vs_f_X11_walker_uX11 : ∀ w ∈ u_ws RX11 TX11 17, w ∈ vs_f_X11_walker := fun _ h => List.mem_append_left _ (List.mem_cons_of_mem _ (List.mem_append_right _ (List.mem_append_left _ h)))
theorem vs_f_X11_walker_uX5 : ∀ w ∈ u_ws RX5 TX5 8, w ∈ vs_f_X11_walker := fun _ h => List.mem_append_left _ (List.mem_cons_of_mem _ (List.mem_append_right _ (List.mem_append_right _ (h))))
set_option maxRecDepth 20000 in
theorem g_f_X11_walker_f_X11_isWalker : GoodIn vs_f_X11_walker (wsV RX11 196 RX11 yX11_isWalker vs_f_X11_isWalker) := fun w hw => ⟨List.mem_append_left _ ((show GoodIn vs_f_X11_walkerA (wsV RX11 196 RX11 yX11_isWalker vs_f_X11_isWalker) from goodIn_r _ [6, 2, 3, 1, 5, 4, 9, 10, 11, 12, 13, 14, 15, 16, 17, 18, 19, 20, 21, 22, 23, 24, 25, 26, 27, 28, 29, 30, 31, 32, 33] (by decide +kernel) (by decide +kernel)) w hw).1, ((show GoodIn vs_f_X11_walkerA (wsV RX11 196 RX11 yX11_isWalker vs_f_X11_isWalker) from goodIn_r _ [6, 2, 3, 1, 5, 4, 9, 10, 11, 12, 13, 14, 15, 16, 17, 18, 19, 20, 21, 22, 23, 24, 25, 26, 27, 28, 29, 30, 31, 32, 33] (by decide +kernel) (by decide +kernel)) w hw).2⟩
set_option maxHeartbeats 4000000 in
set_option maxRecDepth 100000 in
theorem f_X11_walker (l : Launch) (hlt : l.stackTraces = false) (dC : Nat → ClassId) (dI : Nat → Nat → Nat) (sz : Nat) (q : Nat → Nat) (s3 : Nat) (p0 p1 : Int32) : vx_Met l yX11_walker vs_f_X11_walker ({ frames := 6, cells := 1, slots := 6, locals := 90 }) (va_Pc [.ref (q 15), .int p0, .int p1] (cWt dC dI [((q 15), .inr (11, xF q 0 1)), ((q 1), .inr (5, [.int 0, .int 0, .int 0, .int 0, .ref (q 20), .ref (q 21), .ref (q 22), .ref (q 23)]))] [] sz s3)) (va_Qi (fun (r : Int32) (_ : Unit) => False) (fun (_ : Unit) (t : State) => True) (va_A [((q 15), .inr (11, xF q 0 1)), ((q 1), .inr (5, [.int 0, .int 0, .int 0, .int 0, .ref (q 20), .ref (q 21), .ref (q 22), .ref (q 23)]))] sz)) (vx_X (fun (_ : Unit) => True) (fun (E : String) (_ : Unit) (_ : State) => E = xN) (va_A [((q 15), .inr (11, xF q 0 1)), ((q 1), .inr (5, [.int 0, .int 0, .int 0, .int 0, .ref (q 20), .ref (q 21), .ref (q 22), .ref (q 23)]))] sz)) 1 6 (va_A [((q 15), .inr (11, xF q 0 1)), ((q 1), .inr (5, [.int 0, .int 0, .int 0, .int 0, .ref (q 20), .ref (q 21), .ref (q 22), .ref (q 23)]))] sz) := by
  refine vx_ofW (cc := cX11_walker) (maxL := 3) (ret := (some .int)) (by decide) rfl ?_
  intro p e s m args below meth c s₁ B hml hex hv
  obtain ⟨rfl, ⟨hsz, hP, hK, hD0, hG⟩, hE⟩ := hv
  have hx := B.exec
  have hb := B.bytes
  have hr := B.returns
  have hts := atoms_spec (ws := vs_f_X11_walker) B.pre
  have hown : s.vm.findClass RX11 = some m.cls := findClass_of_methodNamed B.named
  have hlocks := B.notSynchronized
  have hiX11 : ∀ w ∈ u_ws RX11 TX11 17, w ∈ vs_f_X11_walker := vs_f_X11_walker_uX11
  have hiX5 : ∀ w ∈ u_ws RX5 TX5 8, w ∈ vs_f_X11_walker := vs_f_X11_walker_uX5
  subst hsz
  have hD := hD0.self (sz := s.heap.size)
  generalize hAe : va_A [((q 15), .inr (11, xF q 0 1)), ((q 1), .inr (5, [.int 0, .int 0, .int 0, .int 0, .ref (q 20), .ref (q 21), .ref (q 22), .ref (q 23)]))] s.heap.size = A at hD hE ⊢
  have hA : ∀ q : Nat, s.heap.size ≤ q → A q := fun q h => by rw [← hAe]; exact Or.inr h
  have hS : va_S A s.heap s.heap [] := va_S.rf
  have hP : va_P (dC, dI) vwCl [((q 15), .inr (11, xF q 0 1)), ((q 1), .inr (5, [.int 0, .int 0, .int 0, .int 0, .ref (q 20), .ref (q 21), .ref (q 22), .ref (q 23)]))] s.heap := hP
  have hl := lv_entry ([.ref (q 15), .int p0, .int p1]) (n := 3) (Nat.le_of_ble_eq_true rfl)
  rw [lg_entry_eq]
  generalize (lg_sl ([.ref (q 15), .int p0, .int p1]) ++ List.replicate (3 - (lg_sl ([.ref (q 15), .int p0, .int p1])).length) Slot.unset).toArray = ls at hl ⊢
  have hl : lv_has ls 3 [(0, .ref (q 15)), (1, .int p0), (2, .int p1)] := hl
  refine lv_aload_n hx hb dX11_walker_0 rfl (lv_at hl 0 rfl) ?_
  refine lv_iload_n hx hb dX11_walker_1 rfl (lv_at hl 1 rfl) ?_
  have hPc := hP.sub (ws' := [((q 15), .inr (11, xF q 0 1)), ((q 1), .inr (5, [.int 0, .int 0, .int 0, .int 0, .ref (q 20), .ref (q 21), .ref (q 22), .ref (q 23)]))]) [0, 1] rfl
  have hDc := hD.sub (ws' := [((q 15), .inr (11, xF q 0 1)), ((q 1), .inr (5, [.int 0, .int 0, .int 0, .int 0, .ref (q 20), .ref (q 21), .ref (q 22), .ref (q 23)]))]) [0, 1] (by decide) rfl
  have hKc := hK.sub (tys' := []) [] rfl
  have hFc := va_free (wc := [((q 15), .inr (11, xF q 0 1)), ((q 1), .inr (5, [.int 0, .int 0, .int 0, .int 0, .ref (q 20), .ref (q 21), .ref (q 22), .ref (q 23)]))]) hD hS hA [0, 1] rfl
  refine va_calli (va_runV (As := [.int p0]) (rest := []) ⟨hx, hb, hml, hown, hts⟩ (f_X11_isWalker l dC dI s.heap.size q p0) (cwV 1 hts g_f_X11_walker_f_X11_isWalker rfl rfl rfl (by decide +kernel) ⟨Nat.le_of_ble_eq_true rfl, Nat.le_of_ble_eq_true rfl⟩) ⟨cW_blind, va_recv hKc hPc (ci := 11) (q0 := 0) rfl rfl, fun U hU hW => ⟨rfl, cW_use hU hW hPc hKc hDc hG⟩⟩ rfl rfl hl.1 rfl (lv_room (Nat.le_of_ble_eq_true rfl)) dX11_walker_2 ⟨Nat.le_of_ble_eq_true rfl, Nat.le_of_ble_eq_true rfl⟩) hS (fun q _ h => hFc q h) hFc (fun r_1 u t H1 locs ht hvm hw hB hz1 hk1 hS => ?_)
  obtain ⟨hP, hD⟩ := va_join (wr := []) (w1 := []) hP hD [0, 1] [] rfl rfl (by decide) (by decide) hk1 hFc (va_P_nil H1) va_D_nil
  generalize H1 = H at hP hS ⊢
  have hP : va_P (dC, dI) vwCl [] H := hP
  have hD : va_D A [] := hD
  refine W.widen (k := 0) (n := 0) (Nat.le_of_ble_eq_true rfl) (Nat.le_of_ble_eq_true rfl) ?_
  obtain rfl : r_1 = 0 := hw
  refine lv_if_eq (tgt := 17) hx hb dX11_walker_5 (by decide) (fun c_2 => ?_) (fun c_2 => absurd (by decide) c_2)
  have h1z : ∀ t : State, H.size ≤ t.heap.size → (∀ q : Nat, q < H.size → t.heap[q]? = H[q]?) → va_F A s t := fun t h1 h2 => ⟨Nat.le_trans hS.1 h1, fun q g1 g2 => (h2 q (Nat.lt_of_lt_of_le g1 hS.1)).trans (hS.2.1 q g1 g2)⟩
  exact x_throw hx hb hlt hown (hts (.classLink RX11 199 "java/util/NoSuchElementException") (by decide +kernel)) (hts (.initialized "java/util/NoSuchElementException") (by decide +kernel)) hE.2.1 (x_all (fun w hw => hts w (List.mem_append_right _ hw)) hE) hE.1.1 hE.1.2 hS (hl.1.trans hml.symm) dX11_walker_17 dX11_walker_20 dX11_walker_21 dX11_walker_23 dX11_walker_26 (fun x hx9 => (hex x hx9).elim) (Nat.le_of_ble_eq_true rfl) (Nat.le_of_ble_eq_true rfl) (Nat.le_of_ble_eq_true rfl) (Nat.le_of_ble_eq_true rfl) hlocks (fun t _ h1 h2 => ⟨(), trivial, rfl, h1z t h1 h2⟩) hS.2.2 (Nat.le_refl _) (Nat.le_refl _)
