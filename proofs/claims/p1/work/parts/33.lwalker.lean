set_option maxRecDepth 20000 in
theorem dL_walker_0 : decode cL_walker 0 = .ok (.aload_n 3, 1) := by decide +kernel
set_option maxRecDepth 20000 in
theorem dL_walker_1 : decode cL_walker 1 = .ok (.iconst 0, 1) := by decide +kernel
set_option maxRecDepth 20000 in
theorem dL_walker_2 : decode cL_walker 2 = .ok (.aload_n 0, 1) := by decide +kernel
set_option maxRecDepth 20000 in
theorem dL_walker_3 : decode cL_walker 3 = .ok (.iload_n 1, 1) := by decide +kernel
set_option maxRecDepth 20000 in
theorem dL_walker_4 : decode cL_walker 4 = .ok (.iload_n 2, 1) := by decide +kernel
set_option maxRecDepth 20000 in
theorem dL_walker_5 : decode cL_walker 5 = .ok (.invokevirtual 7, 3) := by decide +kernel
set_option maxRecDepth 20000 in
theorem dL_walker_13 : decode cL_walker 13 = .ok (.astore 4, 2) := by decide +kernel
set_option maxRecDepth 20000 in
theorem dL_walker_15 : decode cL_walker 15 = .ok (.iconst 1, 1) := by decide +kernel
set_option maxRecDepth 20000 in
theorem dL_walker_16 : decode cL_walker 16 = .ok (.ireturn, 1) := by decide +kernel
def vs_f_L_walkerA : List Cond := .codeWith yL_walker cL_walker 5 (some .int) [(0, 10, 13, 13)] :: ([.classLink RL 13 "java/util/NoSuchElementException", .methodLink RL 7 yX11_walker, .instanceMethod yX11_walker, .selects RX11 yX11_walker yX11_walker, .code yX11_walker cX11_walker 3 (some .int), .initialized RX11, .instanceMethod yX11_isWalker, .selects RX11 yX11_isWalker yX11_isWalker, .fieldLink RX11 19 "WallChapels" "town" "LWallChapels$Plan;", .code yX11_isWalker cX11_isWalker 2 (some .boolean), .methodLink RX11 196 yX11_isWalker, .classLink RX11 199 "java/util/NoSuchElementException", .initialized "java/util/NoSuchElementException"] ++ (u_ws RX11 TX11 17 ++ (u_ws RX5 TX5 8)))
def vs_f_L_walker : List Cond := vs_f_L_walkerA ++ xg
theorem g_app {big a b : List Cond} (ha : GoodIn big a) (hb : GoodIn big b) : GoodIn big (a ++ b) := goodIn_app ha hb
theorem g_wide {a b c : List Cond} (h : GoodIn a c) : GoodIn (a ++ b) c := fun w hw => ⟨List.mem_append_left _ (h w hw).1, (h w hw).2⟩
theorem xg_good : xg.all goodWord = true := by decide +kernel
theorem g_xg {a : List Cond} : GoodIn (a ++ xg) xg := fun w hw => ⟨List.mem_append_right _ hw, good_of_word (List.all_eq_true.mp xg_good w hw)⟩
set_option maxRecDepth 20000 in
theorem g_f_L_walker_0 : GoodIn vs_f_L_walkerA (wsV RL 7 RX11 yX11_walker vs_f_X11_walkerA) := goodIn_r _ [2, 3, 4, 6, 5, 6, 7, 8, 9, 10, 11, 12, 13, 14, 15, 16, 17, 18, 19, 20, 21, 22, 23, 24, 25, 26, 27, 28, 29, 30, 31, 32, 33, 34, 35, 36, 37, 38] (by decide +kernel) (by decide +kernel)
theorem g_f_L_walker : GoodIn vs_f_L_walker (wsV RL 7 RX11 yX11_walker vs_f_X11_walker) := by
  have h := g_app (g_wide (b := xg) g_f_L_walker_0) (g_xg (a := vs_f_L_walkerA))
  exact h
set_option maxHeartbeats 4000000 in
set_option maxRecDepth 100000 in
theorem f_L_walker (l : Launch) (hlt : l.stackTraces = false) (dC : Nat → ClassId) (dI : Nat → Nat → Nat) (sz : Nat) (q : Nat → Nat) (s3 qo : Nat) (p0 p1 : Int32) : vx_Met l yL_walker vs_f_L_walker ({ frames := 7, cells := 1, slots := 6, locals := 120 }) (va_Pc [.ref (q 15), .int p0, .int p1, .ref qo] (cWt dC dI [((q 15), .inr (11, xF q 0 1)), ((q 1), .inr (5, [.int 0, .int 0, .int 0, .int 0, .ref (q 20), .ref (q 21), .ref (q 22), .ref (q 23)]))] [] sz s3)) (va_Qi (fun (r : Int32) (_ : Unit) => r = 1) (fun (_ : Unit) (t : State) => True) (va_A [((q 15), .inr (11, xF q 0 1)), ((q 1), .inr (5, [.int 0, .int 0, .int 0, .int 0, .ref (q 20), .ref (q 21), .ref (q 22), .ref (q 23)]))] sz)) (vx_X (fun (_ : Unit) => False) (fun (E : String) (_ : Unit) (_ : State) => True) (va_A [((q 15), .inr (11, xF q 0 1)), ((q 1), .inr (5, [.int 0, .int 0, .int 0, .int 0, .ref (q 20), .ref (q 21), .ref (q 22), .ref (q 23)]))] sz)) 1 6 (va_A [((q 15), .inr (11, xF q 0 1)), ((q 1), .inr (5, [.int 0, .int 0, .int 0, .int 0, .ref (q 20), .ref (q 21), .ref (q 22), .ref (q 23)]))] sz) := by
  refine vx_ofWH (cc := cL_walker) (maxL := 5) (ret := (some .int)) (hh := [(0, 10, 13, 13)]) (by decide) rfl ?_
  intro p e s m args below meth c s₁ B hml hv
  obtain ⟨rfl, ⟨hsz, hP, hK, hD0, hG⟩, hE⟩ := hv
  have hx := B.exec
  have hb := B.bytes
  have hr := B.returns
  have hts := atoms_spec (ws := vs_f_L_walker) B.pre
  have hown : s.vm.findClass RL = some m.cls := findClass_of_methodNamed B.named
  have hlocks := B.notSynchronized
  have hex : c.exceptionTable.toList = tableOf [(0, 10, 13, 13)] := vx_table (x := yL_walker) B (hts _ List.mem_cons_self)
  subst hsz
  have hD := hD0.self (sz := s.heap.size)
  generalize hAe : va_A [((q 15), .inr (11, xF q 0 1)), ((q 1), .inr (5, [.int 0, .int 0, .int 0, .int 0, .ref (q 20), .ref (q 21), .ref (q 22), .ref (q 23)]))] s.heap.size = A at hD hE ⊢
  have hA : ∀ q : Nat, s.heap.size ≤ q → A q := fun q h => by rw [← hAe]; exact Or.inr h
  have hS : va_S A s.heap s.heap [] := va_S.rf
  have hP : va_P (dC, dI) vwCl [((q 15), .inr (11, xF q 0 1)), ((q 1), .inr (5, [.int 0, .int 0, .int 0, .int 0, .ref (q 20), .ref (q 21), .ref (q 22), .ref (q 23)]))] s.heap := hP
  have hl := lv_entry ([.ref (q 15), .int p0, .int p1, .ref qo]) (n := 5) (Nat.le_of_ble_eq_true rfl)
  rw [lg_entry_eq]
  generalize (lg_sl ([.ref (q 15), .int p0, .int p1, .ref qo]) ++ List.replicate (5 - (lg_sl ([.ref (q 15), .int p0, .int p1, .ref qo])).length) Slot.unset).toArray = ls at hl ⊢
  have hl : lv_has ls 5 [(0, .ref (q 15)), (1, .int p0), (2, .int p1), (3, .ref qo)] := hl
  refine lv_aload_n hx hb dL_walker_0 rfl (lv_at hl 3 rfl) ?_
  refine lv_iconst (v := 0) hx hb dL_walker_1 (by decide) ?_
  refine lv_aload_n hx hb dL_walker_2 rfl (lv_at hl 0 rfl) ?_
  refine lv_iload_n hx hb dL_walker_3 rfl (lv_at hl 1 rfl) ?_
  refine lv_iload_n hx hb dL_walker_4 rfl (lv_at hl 2 rfl) ?_
  have hPc := hP.sub (ws' := [((q 15), .inr (11, xF q 0 1)), ((q 1), .inr (5, [.int 0, .int 0, .int 0, .int 0, .ref (q 20), .ref (q 21), .ref (q 22), .ref (q 23)]))]) [0, 1] rfl
  have hDc := hD.sub (ws' := [((q 15), .inr (11, xF q 0 1)), ((q 1), .inr (5, [.int 0, .int 0, .int 0, .int 0, .ref (q 20), .ref (q 21), .ref (q 22), .ref (q 23)]))]) [0, 1] (by decide) rfl
  have hKc := hK.sub (tys' := []) [] rfl
  have hFc := va_free (wc := [((q 15), .inr (11, xF q 0 1)), ((q 1), .inr (5, [.int 0, .int 0, .int 0, .int 0, .ref (q 20), .ref (q 21), .ref (q 22), .ref (q 23)]))]) hD hS hA [0, 1] rfl
  refine vx_calli (vx_runV (As := [.int p0, .int p1]) (rest := [.int 0, .ref qo]) ⟨hx, hb, hml, hown, hts⟩ (f_X11_walker l hlt dC dI s.heap.size q s3 p0 p1) (cwV 2 hts g_f_L_walker rfl rfl rfl (by decide +kernel) ⟨Nat.le_of_ble_eq_true rfl, Nat.le_of_ble_eq_true rfl⟩) ⟨cW_blindt, va_recv hKc hPc (ci := 11) (q0 := 0) rfl rfl, fun U hU hW => ⟨rfl, cW_uset hU hW hPc hKc hDc hG hS hFc hE⟩⟩ rfl rfl hl.1 rfl (lv_room (Nat.le_of_ble_eq_true rfl)) dL_walker_5 ⟨Nat.le_of_ble_eq_true rfl, Nat.le_of_ble_eq_true rfl⟩) hS (fun q _ h => hFc q h) hFc (fun q _ h => hFc q h) (fun E ce q9 u t H1 locs ht hvm _ hw hz1 hk1 hS hce hcv hcl => ?_) (fun r u t H1 locs ht hvm hw hB hz1 hk1 hS => hw.elim)
  subst hw
  refine vx_catch (own := RL) (name := xN) (E := xN) hown [] { startPc := 0, endPc := 10, handlerPc := 13, catchType := 13 } [] (by rw [hex]; rfl) (fun z hz => nomatch hz) (by decide) (by decide) (hts (.classLink RL 13 xN) (List.mem_append_left _ (by decide +kernel))) (va_Nw.use rfl hE.2.2.1) hce hcv hcl ?_
  refine W.eq (g2 := F0 m 13 ls [.ref q9]) rfl ?_
  refine vx_ret ?_
  refine lv_astore (lv' := [(4, .ref q9), (0, .ref (q 15)), (1, .int p0), (2, .int p1), (3, .ref qo)]) hx hb dL_walker_13 hl (by decide) rfl (fun ls hl => ?_)
  refine lv_iconst (v := 1) hx hb dL_walker_15 (by decide) ?_
  refine W.widen (k := 1) (n := 6) (Nat.le_of_ble_eq_true rfl) (Nat.le_of_ble_eq_true rfl) ?_
  exact W.iret (v := 1) hx hb hr (fun t ht hW => ⟨⟨1, (), rfl, rfl, trivial⟩, hS.F ht⟩) hS.2.2 dL_walker_16
