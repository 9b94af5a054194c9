set_option maxRecDepth 20000 in
theorem dX12_walker_0 : decode cX12_walker 0 = .ok (.aload_n 0, 1) := by decide +kernel
set_option maxRecDepth 20000 in
theorem dX12_walker_1 : decode cX12_walker 1 = .ok (.aload_n 0, 1) := by decide +kernel
set_option maxRecDepth 20000 in
theorem dX12_walker_2 : decode cX12_walker 2 = .ok (.iload_n 1, 1) := by decide +kernel
set_option maxRecDepth 20000 in
theorem dX12_walker_3 : decode cX12_walker 3 = .ok (.invokevirtual 362, 3) := by decide +kernel
set_option maxRecDepth 20000 in
theorem dX12_walker_6 : decode cX12_walker 6 = .ok (.ifCond .eq 17, 3) := by decide +kernel
set_option maxRecDepth 20000 in
theorem dX12_walker_23 : decode cX12_walker 23 = .ok (.iconst 1, 1) := by decide +kernel
set_option maxRecDepth 20000 in
theorem dX12_walker_24 : decode cX12_walker 24 = .ok (.putfield 90, 3) := by decide +kernel
set_option maxRecDepth 20000 in
theorem dX12_walker_27 : decode cX12_walker 27 = .ok (.aload_n 0, 1) := by decide +kernel
set_option maxRecDepth 20000 in
theorem dX12_walker_28 : decode cX12_walker 28 = .ok (.getfield 90, 3) := by decide +kernel
set_option maxRecDepth 20000 in
theorem dX12_walker_31 : decode cX12_walker 31 = .ok (.ifCond .le 7, 3) := by decide +kernel
set_option maxRecDepth 20000 in
theorem dX12_walker_34 : decode cX12_walker 34 = .ok (.iconst 0, 1) := by decide +kernel
set_option maxRecDepth 20000 in
theorem dX12_walker_35 : decode cX12_walker 35 = .ok (.goto 16, 3) := by decide +kernel
set_option maxRecDepth 20000 in
theorem dX12_walker_51 : decode cX12_walker 51 = .ok (.ireturn, 1) := by decide +kernel
set_option maxRecDepth 20000 in
theorem dX12_thrown_0 : decode cX12_thrown 0 = .ok (.aload_n 0, 1) := by decide +kernel
set_option maxRecDepth 20000 in
theorem dX12_thrown_1 : decode cX12_thrown 1 = .ok (.getfield 90, 3) := by decide +kernel
set_option maxRecDepth 20000 in
theorem dX12_thrown_4 : decode cX12_thrown 4 = .ok (.ireturn, 1) := by decide +kernel
def vs_f_X12_isWalker_a1 : List Cond := .code yX12_isWalker cX12_isWalker 2 (some .boolean) :: ([.fieldLink RX12 286 "WallChapelsModel" "walkers" "I"] ++ (u_ws RX12 TX12 54))
theorem vs_f_X12_isWalker_a1_uX12 : ∀ w ∈ u_ws RX12 TX12 54, w ∈ vs_f_X12_isWalker_a1 := fun _ h => List.mem_cons_of_mem _ (List.mem_append_right _ (h))
set_option maxHeartbeats 4000000 in
set_option maxRecDepth 100000 in
theorem f_X12_isWalker_a1 (l : Launch) (dC : Nat → ClassId) (dI : Nat → Nat → Nat) (sz : Nat) (r : Nat → Nat) (p0 : Int32) : Met l yX12_isWalker vs_f_X12_isWalker_a1 ({ frames := 0, cells := 0, slots := 0, locals := 0 }) (va_Pc [.ref (r 100), .int p0] (cW dC dI [((r 100), .inr (12, mF r 0 0 0 0 0 0 0 0 0 0 0 0 0 (-1) 1))] [] sz)) (va_Qi (fun (r : Int32) (_ : Unit) => r = 0) (fun (_ : Unit) (t : State) => cB dC dI (va_A [((r 100), .inr (12, mF r 0 0 0 0 0 0 0 0 0 0 0 0 0 (-1) 1))] sz) [((r 100), .inr (12, mF r 0 0 0 0 0 0 0 0 0 0 0 0 0 (-1) 1))] [] t) (va_A [((r 100), .inr (12, mF r 0 0 0 0 0 0 0 0 0 0 0 0 0 (-1) 1))] sz)) 0 0 (va_A [((r 100), .inr (12, mF r 0 0 0 0 0 0 0 0 0 0 0 0 0 (-1) 1))] sz) := by
  refine Met.ofW (cc := cX12_isWalker) (maxL := 2) (ret := (some .boolean)) (by decide) rfl ?_
  intro p e s m args below meth c s₁ B hml hv
  obtain ⟨rfl, hsz, hP, hK, hD0, hG⟩ := hv
  have hx := B.exec
  have hb := B.bytes
  have hr := B.returns
  have hts := atoms_spec (ws := vs_f_X12_isWalker_a1) B.pre
  have hown : s.vm.findClass RX12 = some m.cls := findClass_of_methodNamed B.named
  have hlocks := B.notSynchronized
  have hiX12 : ∀ w ∈ u_ws RX12 TX12 54, w ∈ vs_f_X12_isWalker_a1 := vs_f_X12_isWalker_a1_uX12
  subst hsz
  have hD := hD0.self (sz := s.heap.size)
  generalize hAe : va_A [((r 100), .inr (12, mF r 0 0 0 0 0 0 0 0 0 0 0 0 0 (-1) 1))] s.heap.size = A at hD ⊢
  have hA : ∀ q : Nat, s.heap.size ≤ q → A q := fun q h => by rw [← hAe]; exact Or.inr h
  have hS : va_S A s.heap s.heap [] := va_S.rf
  have hP : va_P (dC, dI) vwCl [((r 100), .inr (12, mF r 0 0 0 0 0 0 0 0 0 0 0 0 0 (-1) 1))] s.heap := hP
  have hl := lv_entry ([.ref (r 100), .int p0]) (n := 2) (Nat.le_of_ble_eq_true rfl)
  rw [lg_entry_eq]
  generalize (lg_sl ([.ref (r 100), .int p0]) ++ List.replicate (2 - (lg_sl ([.ref (r 100), .int p0])).length) Slot.unset).toArray = ls at hl ⊢
  have hl : lv_has ls 2 [(0, .ref (r 100)), (1, .int p0)] := hl
  refine lv_iload_n hx hb dX12_isWalker_0 rfl (lv_at hl 1 rfl) ?_
  refine lv_if_lt (tgt := 16) hx hb dX12_isWalker_1 (by decide) (fun c_1 => ?_) (fun c_1 => ?_)
  · refine lv_iconst (v := 0) hx hb dX12_isWalker_16 (by decide) ?_
    have hP9 := hP.sub (ws' := [((r 100), .inr (12, mF r 0 0 0 0 0 0 0 0 0 0 0 0 0 (-1) 1))]) [0] rfl
    have hD9 := hD.sub (ws' := [((r 100), .inr (12, mF r 0 0 0 0 0 0 0 0 0 0 0 0 0 (-1) 1))]) [0] (by decide) rfl
    have hK9 := hK.sub (tys' := []) [] rfl
    exact W.zret (v := 0) hx hb hr rfl (fun t ht hW => ⟨⟨0, (), rfl, rfl, ⟨by rw [ht]; exact hP9, va_K.moved hW.alike hK9, hD9⟩⟩, hS.F ht⟩) hS.2.2 dX12_isWalker_17
  · refine lv_iload_n hx hb dX12_isWalker_4 rfl (lv_at hl 1 rfl) ?_
    refine lv_aload_n hx hb dX12_isWalker_5 rfl (lv_at hl 0 rfl) ?_
    refine va_get (D := (dC, dI)) (ci := 12) (v := .int 0) (C := RX12) (T := TX12) (N := 54) hx hb hts hiX12 hown hK hP 0 rfl rfl 27 (by decide) (hts (.fieldLink RX12 286 "WallChapelsModel" "walkers" "I") (by decide +kernel)) (fun _ h9 => h9) rfl dX12_isWalker_6 ?_
    refine lv_icmp_ge (tgt := 16) hx hb dX12_isWalker_9 (by decide) (fun c_2 => ?_) (fun c_2 => by have z0 := c_1; have z1 := c_2; simp only [i_lt, i_le, i_eq, i_zm1000000, i_zm30, i_zm20, i_zm2, i_zm1, i_z0, i_z1, i_z2, i_z3, i_z4, i_z5, i_z6, i_z7, i_z8, i_z9, i_z10, i_z11, i_z12, i_z13, i_z14, i_z15, i_z16, i_z17, i_z18, i_z19, i_z20, i_z21, i_z22, i_z23, i_z24, i_z30, i_z32, i_z40, i_z41, i_z50, i_z58, i_z59, i_z60, i_z63, i_z99, i_z100, i_z240, i_z255, i_z999] at z0 z1; omega)
    refine lv_iconst (v := 0) hx hb dX12_isWalker_16 (by decide) ?_
    have hP9 := hP.sub (ws' := [((r 100), .inr (12, mF r 0 0 0 0 0 0 0 0 0 0 0 0 0 (-1) 1))]) [0] rfl
    have hD9 := hD.sub (ws' := [((r 100), .inr (12, mF r 0 0 0 0 0 0 0 0 0 0 0 0 0 (-1) 1))]) [0] (by decide) rfl
    have hK9 := hK.sub (tys' := []) [] rfl
    exact W.zret (v := 0) hx hb hr rfl (fun t ht hW => ⟨⟨0, (), rfl, rfl, ⟨by rw [ht]; exact hP9, va_K.moved hW.alike hK9, hD9⟩⟩, hS.F ht⟩) hS.2.2 dX12_isWalker_17
def vs_f_X12_walker : List Cond := .code yX12_walker cX12_walker 3 (some .int) :: ([.initialized RX12, .instanceMethod yX12_isWalker, .selects RX12 yX12_isWalker yX12_isWalker, .fieldLink RX12 286 "WallChapelsModel" "walkers" "I", .code yX12_isWalker cX12_isWalker 2 (some .boolean), .methodLink RX12 362 yX12_isWalker, .fieldLink RX12 90 "WallChapelsModel" "thrown" "I"] ++ (u_ws RX12 TX12 54))
theorem vs_f_X12_walker_uX12 : ∀ w ∈ u_ws RX12 TX12 54, w ∈ vs_f_X12_walker := fun _ h => List.mem_cons_of_mem _ (List.mem_append_right _ (h))
set_option maxRecDepth 20000 in
theorem g_f_X12_walker_f_X12_isWalker_a1 : GoodIn vs_f_X12_walker (wsV RX12 362 RX12 yX12_isWalker vs_f_X12_isWalker_a1) := goodIn_r _ [6, 2, 3, 1, 5, 4, 8, 9, 10, 11, 12, 13, 14, 15, 16, 17, 18, 19, 20, 21, 22, 23, 24, 25, 26, 27, 28, 29, 30, 31, 32, 33, 34, 35, 36, 37, 38, 39, 40, 41, 42, 43, 44, 45, 46, 47, 48, 49, 50, 51, 52, 53, 54, 55, 56, 57, 58, 59, 60, 61] (by decide +kernel) (by decide +kernel)
set_option maxHeartbeats 4000000 in
set_option maxRecDepth 100000 in
theorem f_X12_walker (l : Launch) (dC : Nat → ClassId) (dI : Nat → Nat → Nat) (sz : Nat) (r : Nat → Nat) (p0 p1 : Int32) : Met l yX12_walker vs_f_X12_walker ({ frames := 1, cells := 0, slots := 0, locals := 21 }) (va_Pc [.ref (r 100), .int p0, .int p1] (cW dC dI [((r 100), .inr (12, mF r 0 0 0 0 0 0 0 0 0 0 0 0 0 (-1) 1))] [] sz)) (va_Qi (fun (r : Int32) (_ : Unit) => r = 0) (fun (_ : Unit) (t : State) => cB dC dI (va_A [((r 100), .inr (12, mF r 0 0 0 0 0 0 0 0 0 0 0 0 0 (-1) 1))] sz) [((r 100), .inr (12, mF r 1 0 0 0 0 0 0 0 0 0 0 0 0 (-1) 1))] [] t) (va_A [((r 100), .inr (12, mF r 0 0 0 0 0 0 0 0 0 0 0 0 0 (-1) 1))] sz)) 0 0 (va_A [((r 100), .inr (12, mF r 0 0 0 0 0 0 0 0 0 0 0 0 0 (-1) 1))] sz) := by
  refine Met.ofW (cc := cX12_walker) (maxL := 3) (ret := (some .int)) (by decide) rfl ?_
  intro p e s m args below meth c s₁ B hml hv
  obtain ⟨rfl, hsz, hP, hK, hD0, hG⟩ := hv
  have hx := B.exec
  have hb := B.bytes
  have hr := B.returns
  have hts := atoms_spec (ws := vs_f_X12_walker) B.pre
  have hown : s.vm.findClass RX12 = some m.cls := findClass_of_methodNamed B.named
  have hlocks := B.notSynchronized
  have hiX12 : ∀ w ∈ u_ws RX12 TX12 54, w ∈ vs_f_X12_walker := vs_f_X12_walker_uX12
  subst hsz
  have hD := hD0.self (sz := s.heap.size)
  generalize hAe : va_A [((r 100), .inr (12, mF r 0 0 0 0 0 0 0 0 0 0 0 0 0 (-1) 1))] s.heap.size = A at hD ⊢
  have hA : ∀ q : Nat, s.heap.size ≤ q → A q := fun q h => by rw [← hAe]; exact Or.inr h
  have hS : va_S A s.heap s.heap [] := va_S.rf
  have hP : va_P (dC, dI) vwCl [((r 100), .inr (12, mF r 0 0 0 0 0 0 0 0 0 0 0 0 0 (-1) 1))] s.heap := hP
  have hl := lv_entry ([.ref (r 100), .int p0, .int p1]) (n := 3) (Nat.le_of_ble_eq_true rfl)
  rw [lg_entry_eq]
  generalize (lg_sl ([.ref (r 100), .int p0, .int p1]) ++ List.replicate (3 - (lg_sl ([.ref (r 100), .int p0, .int p1])).length) Slot.unset).toArray = ls at hl ⊢
  have hl : lv_has ls 3 [(0, .ref (r 100)), (1, .int p0), (2, .int p1)] := hl
  refine lv_aload_n hx hb dX12_walker_0 rfl (lv_at hl 0 rfl) ?_
  refine lv_aload_n hx hb dX12_walker_1 rfl (lv_at hl 0 rfl) ?_
  refine lv_iload_n hx hb dX12_walker_2 rfl (lv_at hl 1 rfl) ?_
  have hPc := hP.sub (ws' := [((r 100), .inr (12, mF r 0 0 0 0 0 0 0 0 0 0 0 0 0 (-1) 1))]) [0] rfl
  have hDc := hD.sub (ws' := [((r 100), .inr (12, mF r 0 0 0 0 0 0 0 0 0 0 0 0 0 (-1) 1))]) [0] (by decide) rfl
  have hKc := hK.sub (tys' := []) [] rfl
  have hFc := va_free (wc := [((r 100), .inr (12, mF r 0 0 0 0 0 0 0 0 0 0 0 0 0 (-1) 1))]) hD hS hA [0] rfl
  refine va_calli (va_runV (As := [.int p0]) (rest := [.ref (r 100)]) ⟨hx, hb, hml, hown, hts⟩ (f_X12_isWalker_a1 l dC dI s.heap.size r p0) (cwV 1 hts g_f_X12_walker_f_X12_isWalker_a1 rfl rfl rfl (by decide +kernel) ⟨Nat.le_of_ble_eq_true rfl, Nat.le_of_ble_eq_true rfl⟩) ⟨cW_blind, va_recv hKc hPc (ci := 12) (q0 := 0) rfl rfl, fun U hU hW => ⟨rfl, cW_use hU hW hPc hKc hDc hG⟩⟩ rfl rfl hl.1 rfl (lv_room (Nat.le_of_ble_eq_true rfl)) dX12_walker_3 ⟨Nat.le_of_ble_eq_true rfl, Nat.le_of_ble_eq_true rfl⟩) hS (fun q _ h => hFc q h) hFc (fun r_1 u t H1 locs ht hvm hw hB hz1 hk1 hS => ?_)
  obtain ⟨hP1, hK1, hD1⟩ := hB
  rw [ht] at hP1
  have hK1 := va_K.moved hvm.symm hK1
  obtain ⟨hP, hD⟩ := va_join (wr := []) (w1 := [((r 100), .inr (12, mF r 0 0 0 0 0 0 0 0 0 0 0 0 0 (-1) 1))]) hP hD [0] [] rfl rfl (by decide) (by decide) hk1 hFc hP1 hD1
  generalize H1 = H at hP hS ⊢
  have hP : va_P (dC, dI) vwCl [((r 100), .inr (12, mF r 0 0 0 0 0 0 0 0 0 0 0 0 0 (-1) 1))] H := hP
  have hD : va_D A [((r 100), .inr (12, mF r 0 0 0 0 0 0 0 0 0 0 0 0 0 (-1) 1))] := hD
  refine W.widen (k := 0) (n := 0) (Nat.le_of_ble_eq_true rfl) (Nat.le_of_ble_eq_true rfl) ?_
  obtain rfl : r_1 = 0 := hw
  refine lv_if_eq (tgt := 23) hx hb dX12_walker_6 (by decide) (fun c_2 => ?_) (fun c_2 => absurd (by decide) c_2)
  refine lv_iconst (v := 1) hx hb dX12_walker_23 (by decide) ?_
  refine va_put (D := (dC, dI)) (ci := 12) (v := .int 1) (ty := .int) (C := RX12) (T := TX12) (N := 54) hx hb hts hiX12 tyX12 tyX12_ok nmX12 hown hK hP hD hS 0 rfl rfl 0 (by decide) (hts (.fieldLink RX12 90 "WallChapelsModel" "thrown" "I") (by decide +kernel)) (fun _ h9 => h9) rfl (by decide +kernel) rfl rfl (Nat.le_of_ble_eq_true rfl) dX12_walker_24 (fun H locs hP hD hS => ?_)
  have hP : va_P (dC, dI) vwCl [((r 100), .inr (12, mF r 1 0 0 0 0 0 0 0 0 0 0 0 0 (-1) 1))] H := hP
  have hD : va_D A [((r 100), .inr (12, mF r 1 0 0 0 0 0 0 0 0 0 0 0 0 (-1) 1))] := hD
  refine lv_aload_n hx hb dX12_walker_27 rfl (lv_at hl 0 rfl) ?_
  refine va_get (D := (dC, dI)) (ci := 12) (v := .int 1) (C := RX12) (T := TX12) (N := 54) hx hb hts hiX12 hown hK hP 0 rfl rfl 0 (by decide) (hts (.fieldLink RX12 90 "WallChapelsModel" "thrown" "I") (by decide +kernel)) (fun _ h9 => h9) rfl dX12_walker_28 ?_
  refine lv_if_le (tgt := 38) hx hb dX12_walker_31 (by decide) (fun c_3 => absurd c_3 (by decide)) (fun c_3 => ?_)
  refine lv_iconst (v := 0) hx hb dX12_walker_34 (by decide) ?_
  refine lv_goto (tgt := 51) hx hb dX12_walker_35 (by decide) ?_
  have hP9 := hP.sub (ws' := [((r 100), .inr (12, mF r 1 0 0 0 0 0 0 0 0 0 0 0 0 (-1) 1))]) [0] rfl
  have hD9 := hD.sub (ws' := [((r 100), .inr (12, mF r 1 0 0 0 0 0 0 0 0 0 0 0 0 (-1) 1))]) [0] (by decide) rfl
  have hK9 := hK.sub (tys' := []) [] rfl
  exact W.iret (v := 0) hx hb hr (fun t ht hW => ⟨⟨0, (), rfl, rfl, ⟨by rw [ht]; exact hP9, va_K.moved hW.alike hK9, hD9⟩⟩, hS.F ht⟩) hS.2.2 dX12_walker_51
def vs_f_X12_thrown : List Cond := .code yX12_thrown cX12_thrown 1 (some .int) :: ([.fieldLink RX12 90 "WallChapelsModel" "thrown" "I"] ++ (u_ws RX12 TX12 54))
theorem vs_f_X12_thrown_uX12 : ∀ w ∈ u_ws RX12 TX12 54, w ∈ vs_f_X12_thrown := fun _ h => List.mem_cons_of_mem _ (List.mem_append_right _ (h))
set_option maxHeartbeats 4000000 in
set_option maxRecDepth 100000 in
theorem f_X12_thrown (l : Launch) (dC : Nat → ClassId) (dI : Nat → Nat → Nat) (sz : Nat) (r : Nat → Nat) : Met l yX12_thrown vs_f_X12_thrown ({ frames := 0, cells := 0, slots := 0, locals := 0 }) (va_Pc [.ref (r 100)] (cW dC dI [((r 100), .inr (12, mF r 1 0 0 0 0 0 0 0 0 0 0 0 0 (-1) 1))] [] sz)) (va_Qi (fun (r : Int32) (_ : Unit) => r = 1) (fun (_ : Unit) (t : State) => True) (va_A [((r 100), .inr (12, mF r 1 0 0 0 0 0 0 0 0 0 0 0 0 (-1) 1))] sz)) 0 0 (va_A [((r 100), .inr (12, mF r 1 0 0 0 0 0 0 0 0 0 0 0 0 (-1) 1))] sz) := by
  refine Met.ofW (cc := cX12_thrown) (maxL := 1) (ret := (some .int)) (by decide) rfl ?_
  intro p e s m args below meth c s₁ B hml hv
  obtain ⟨rfl, hsz, hP, hK, hD0, hG⟩ := hv
  have hx := B.exec
  have hb := B.bytes
  have hr := B.returns
  have hts := atoms_spec (ws := vs_f_X12_thrown) B.pre
  have hown : s.vm.findClass RX12 = some m.cls := findClass_of_methodNamed B.named
  have hlocks := B.notSynchronized
  have hiX12 : ∀ w ∈ u_ws RX12 TX12 54, w ∈ vs_f_X12_thrown := vs_f_X12_thrown_uX12
  subst hsz
  have hD := hD0.self (sz := s.heap.size)
  generalize hAe : va_A [((r 100), .inr (12, mF r 1 0 0 0 0 0 0 0 0 0 0 0 0 (-1) 1))] s.heap.size = A at hD ⊢
  have hA : ∀ q : Nat, s.heap.size ≤ q → A q := fun q h => by rw [← hAe]; exact Or.inr h
  have hS : va_S A s.heap s.heap [] := va_S.rf
  have hP : va_P (dC, dI) vwCl [((r 100), .inr (12, mF r 1 0 0 0 0 0 0 0 0 0 0 0 0 (-1) 1))] s.heap := hP
  have hl := lv_entry ([.ref (r 100)]) (n := 1) (Nat.le_of_ble_eq_true rfl)
  rw [lg_entry_eq]
  generalize (lg_sl ([.ref (r 100)]) ++ List.replicate (1 - (lg_sl ([.ref (r 100)])).length) Slot.unset).toArray = ls at hl ⊢
  have hl : lv_has ls 1 [(0, .ref (r 100))] := hl
  refine lv_aload_n hx hb dX12_thrown_0 rfl (lv_at hl 0 rfl) ?_
  refine va_get (D := (dC, dI)) (ci := 12) (v := .int 1) (C := RX12) (T := TX12) (N := 54) hx hb hts hiX12 hown hK hP 0 rfl rfl 0 (by decide) (hts (.fieldLink RX12 90 "WallChapelsModel" "thrown" "I") (by decide +kernel)) (fun _ h9 => h9) rfl dX12_thrown_1 ?_
  exact W.iret (v := 1) hx hb hr (fun t ht hW => ⟨⟨1, (), rfl, rfl, trivial⟩, hS.F ht⟩) hS.2.2 dX12_thrown_4
