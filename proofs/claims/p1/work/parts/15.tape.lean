set_option maxRecDepth 20000 in
theorem dX8_bytesOf_0 : decode cX8_bytesOf 0 = .ok (.iconst 0, 1) := by decide +kernel
set_option maxRecDepth 20000 in
theorem dX8_bytesOf_1 : decode cX8_bytesOf 1 = .ok (.istore_n 1, 1) := by decide +kernel
set_option maxRecDepth 20000 in
theorem dX8_bytesOf_2 : decode cX8_bytesOf 2 = .ok (.bipush 24, 2) := by decide +kernel
set_option maxRecDepth 20000 in
theorem dX8_bytesOf_4 : decode cX8_bytesOf 4 = .ok (.istore_n 2, 1) := by decide +kernel
set_option maxRecDepth 20000 in
theorem dX8_bytesOf_5 : decode cX8_bytesOf 5 = .ok (.iload_n 2, 1) := by decide +kernel
set_option maxRecDepth 20000 in
theorem dX8_bytesOf_6 : decode cX8_bytesOf 6 = .ok (.ifCond .lt 22, 3) := by decide +kernel
set_option maxRecDepth 20000 in
theorem dX8_bytesOf_9 : decode cX8_bytesOf 9 = .ok (.iload_n 0, 1) := by decide +kernel
set_option maxRecDepth 20000 in
theorem dX8_bytesOf_10 : decode cX8_bytesOf 10 = .ok (.iload_n 2, 1) := by decide +kernel
set_option maxRecDepth 20000 in
theorem dX8_bytesOf_11 : decode cX8_bytesOf 11 = .ok (.iushr, 1) := by decide +kernel
set_option maxRecDepth 20000 in
theorem dX8_bytesOf_12 : decode cX8_bytesOf 12 = .ok (.sipush 255, 3) := by decide +kernel
set_option maxRecDepth 20000 in
theorem dX8_bytesOf_15 : decode cX8_bytesOf 15 = .ok (.iand, 1) := by decide +kernel
set_option maxRecDepth 20000 in
theorem dX8_bytesOf_16 : decode cX8_bytesOf 16 = .ok (.ifCond .eq 6, 3) := by decide +kernel
set_option maxRecDepth 20000 in
theorem dX8_bytesOf_19 : decode cX8_bytesOf 19 = .ok (.iinc 1 1, 3) := by decide +kernel
set_option maxRecDepth 20000 in
theorem dX8_bytesOf_22 : decode cX8_bytesOf 22 = .ok (.iinc 2 (-8), 3) := by decide +kernel
set_option maxRecDepth 20000 in
theorem dX8_bytesOf_25 : decode cX8_bytesOf 25 = .ok (.goto (-20), 3) := by decide +kernel
set_option maxRecDepth 20000 in
theorem dX8_bytesOf_28 : decode cX8_bytesOf 28 = .ok (.iload_n 1, 1) := by decide +kernel
set_option maxRecDepth 20000 in
theorem dX8_bytesOf_29 : decode cX8_bytesOf 29 = .ok (.ireturn, 1) := by decide +kernel
set_option maxRecDepth 20000 in
theorem dX12_bytesIn_0 : decode cX12_bytesIn 0 = .ok (.iconst 0, 1) := by decide +kernel
set_option maxRecDepth 20000 in
theorem dX12_bytesIn_1 : decode cX12_bytesIn 1 = .ok (.istore_n 1, 1) := by decide +kernel
set_option maxRecDepth 20000 in
theorem dX12_bytesIn_2 : decode cX12_bytesIn 2 = .ok (.bipush 24, 2) := by decide +kernel
set_option maxRecDepth 20000 in
theorem dX12_bytesIn_4 : decode cX12_bytesIn 4 = .ok (.istore_n 2, 1) := by decide +kernel
set_option maxRecDepth 20000 in
theorem dX12_bytesIn_5 : decode cX12_bytesIn 5 = .ok (.iload_n 2, 1) := by decide +kernel
set_option maxRecDepth 20000 in
theorem dX12_bytesIn_6 : decode cX12_bytesIn 6 = .ok (.ifCond .lt 27, 3) := by decide +kernel
set_option maxRecDepth 20000 in
theorem dX12_bytesIn_9 : decode cX12_bytesIn 9 = .ok (.iload_n 1, 1) := by decide +kernel
set_option maxRecDepth 20000 in
theorem dX12_bytesIn_10 : decode cX12_bytesIn 10 = .ok (.iload_n 0, 1) := by decide +kernel
set_option maxRecDepth 20000 in
theorem dX12_bytesIn_11 : decode cX12_bytesIn 11 = .ok (.iload_n 2, 1) := by decide +kernel
set_option maxRecDepth 20000 in
theorem dX12_bytesIn_12 : decode cX12_bytesIn 12 = .ok (.ishr, 1) := by decide +kernel
set_option maxRecDepth 20000 in
theorem dX12_bytesIn_13 : decode cX12_bytesIn 13 = .ok (.sipush 255, 3) := by decide +kernel
set_option maxRecDepth 20000 in
theorem dX12_bytesIn_16 : decode cX12_bytesIn 16 = .ok (.iand, 1) := by decide +kernel
set_option maxRecDepth 20000 in
theorem dX12_bytesIn_17 : decode cX12_bytesIn 17 = .ok (.ifCond .eq 7, 3) := by decide +kernel
set_option maxRecDepth 20000 in
theorem dX12_bytesIn_20 : decode cX12_bytesIn 20 = .ok (.iconst 1, 1) := by decide +kernel
set_option maxRecDepth 20000 in
theorem dX12_bytesIn_21 : decode cX12_bytesIn 21 = .ok (.goto 4, 3) := by decide +kernel
set_option maxRecDepth 20000 in
theorem dX12_bytesIn_24 : decode cX12_bytesIn 24 = .ok (.iconst 0, 1) := by decide +kernel
set_option maxRecDepth 20000 in
theorem dX12_bytesIn_25 : decode cX12_bytesIn 25 = .ok (.iadd, 1) := by decide +kernel
set_option maxRecDepth 20000 in
theorem dX12_bytesIn_26 : decode cX12_bytesIn 26 = .ok (.istore_n 1, 1) := by decide +kernel
set_option maxRecDepth 20000 in
theorem dX12_bytesIn_27 : decode cX12_bytesIn 27 = .ok (.iinc 2 (-8), 3) := by decide +kernel
set_option maxRecDepth 20000 in
theorem dX12_bytesIn_30 : decode cX12_bytesIn 30 = .ok (.goto (-25), 3) := by decide +kernel
set_option maxRecDepth 20000 in
theorem dX12_bytesIn_33 : decode cX12_bytesIn 33 = .ok (.iload_n 1, 1) := by decide +kernel
set_option maxRecDepth 20000 in
theorem dX12_bytesIn_34 : decode cX12_bytesIn 34 = .ok (.ireturn, 1) := by decide +kernel
set_option maxRecDepth 20000 in
theorem dX8_append_3 : decode cX8_append 3 = .ok (.iload_n 2, 1) := by decide +kernel
set_option maxRecDepth 20000 in
theorem dX8_append_4 : decode cX8_append 4 = .ok (.ifCond .lt 51, 3) := by decide +kernel
set_option maxRecDepth 20000 in
theorem dX8_append_7 : decode cX8_append 7 = .ok (.iload_n 1, 1) := by decide +kernel
set_option maxRecDepth 20000 in
theorem dX8_append_8 : decode cX8_append 8 = .ok (.iload_n 2, 1) := by decide +kernel
set_option maxRecDepth 20000 in
theorem dX8_append_9 : decode cX8_append 9 = .ok (.iushr, 1) := by decide +kernel
set_option maxRecDepth 20000 in
theorem dX8_append_10 : decode cX8_append 10 = .ok (.sipush 255, 3) := by decide +kernel
set_option maxRecDepth 20000 in
theorem dX8_append_13 : decode cX8_append 13 = .ok (.iand, 1) := by decide +kernel
set_option maxRecDepth 20000 in
theorem dX8_append_14 : decode cX8_append 14 = .ok (.istore_n 3, 1) := by decide +kernel
set_option maxRecDepth 20000 in
theorem dX8_append_15 : decode cX8_append 15 = .ok (.iload_n 3, 1) := by decide +kernel
set_option maxRecDepth 20000 in
theorem dX8_append_16 : decode cX8_append 16 = .ok (.ifCond .eq 33, 3) := by decide +kernel
set_option maxRecDepth 20000 in
theorem dX8_append_49 : decode cX8_append 49 = .ok (.iinc 2 (-8), 3) := by decide +kernel
set_option maxRecDepth 20000 in
theorem dX8_append_52 : decode cX8_append 52 = .ok (.goto (-49), 3) := by decide +kernel
set_option maxRecDepth 20000 in
theorem dX8_append_19 : decode cX8_append 19 = .ok (.aload_n 0, 1) := by decide +kernel
set_option maxRecDepth 20000 in
theorem dX8_append_20 : decode cX8_append 20 = .ok (.getfield 15, 3) := by decide +kernel
set_option maxRecDepth 20000 in
theorem dX8_append_23 : decode cX8_append 23 = .ok (.sipush 240, 3) := by decide +kernel
set_option maxRecDepth 20000 in
theorem dX8_append_26 : decode cX8_append 26 = .ok (.if_icmp .ge 23, 3) := by decide +kernel
set_option maxRecDepth 20000 in
theorem dX8_append_29 : decode cX8_append 29 = .ok (.aload_n 0, 1) := by decide +kernel
set_option maxRecDepth 20000 in
theorem dX8_append_30 : decode cX8_append 30 = .ok (.getfield 9, 3) := by decide +kernel
set_option maxRecDepth 20000 in
theorem dX8_append_33 : decode cX8_append 33 = .ok (.aload_n 0, 1) := by decide +kernel
set_option maxRecDepth 20000 in
theorem dX8_append_34 : decode cX8_append 34 = .ok (.getfield 15, 3) := by decide +kernel
set_option maxRecDepth 20000 in
theorem dX8_append_37 : decode cX8_append 37 = .ok (.iload_n 3, 1) := by decide +kernel
set_option maxRecDepth 20000 in
theorem dX8_append_38 : decode cX8_append 38 = .ok (.iastore, 1) := by decide +kernel
set_option maxRecDepth 20000 in
theorem dX8_append_39 : decode cX8_append 39 = .ok (.aload_n 0, 1) := by decide +kernel
set_option maxRecDepth 20000 in
theorem dX8_append_40 : decode cX8_append 40 = .ok (.dup, 1) := by decide +kernel
set_option maxRecDepth 20000 in
theorem dX8_append_41 : decode cX8_append 41 = .ok (.getfield 15, 3) := by decide +kernel
set_option maxRecDepth 20000 in
theorem dX8_append_44 : decode cX8_append 44 = .ok (.iconst 1, 1) := by decide +kernel
set_option maxRecDepth 20000 in
theorem dX8_append_45 : decode cX8_append 45 = .ok (.iadd, 1) := by decide +kernel
set_option maxRecDepth 20000 in
theorem dX8_append_46 : decode cX8_append 46 = .ok (.putfield 15, 3) := by decide +kernel
set_option maxRecDepth 20000 in
theorem dX8_append_0 : decode cX8_append 0 = .ok (.bipush 24, 2) := by decide +kernel
set_option maxRecDepth 20000 in
theorem dX8_append_2 : decode cX8_append 2 = .ok (.istore_n 2, 1) := by decide +kernel
set_option maxRecDepth 20000 in
theorem dX8_append_55 : decode cX8_append 55 = .ok (.return_, 1) := by decide +kernel
def vs_f_X8_bytesOf : List Cond := .code yX8_bytesOf cX8_bytesOf 3 (some .int) :: ([])
set_option maxHeartbeats 4000000 in
set_option maxRecDepth 100000 in
theorem f_X8_bytesOf (l : Launch) (dC : Nat → ClassId) (dI : Nat → Nat → Nat) (sz : Nat) (p0 : Int32) : Met l yX8_bytesOf vs_f_X8_bytesOf ({ frames := 0, cells := 0, slots := 0, locals := 0 }) (va_Pc [.int p0] (cW dC dI [] [] sz)) (va_Qi (fun (r : Int32) (_ : Unit) => r = nI (cA p0)) (fun (_ : Unit) (t : State) => True) (va_A [] sz)) 0 0 (va_A [] sz) := by
  refine Met.ofW (cc := cX8_bytesOf) (maxL := 3) (ret := (some .int)) (by decide) rfl ?_
  intro p e s m args below meth c s₁ B hml hv
  obtain ⟨rfl, hsz, hP, hK, hD0, hG⟩ := hv
  have hx := B.exec
  have hb := B.bytes
  have hr := B.returns
  have hts := atoms_spec (ws := vs_f_X8_bytesOf) B.pre
  have hown : s.vm.findClass RX8 = some m.cls := findClass_of_methodNamed B.named
  have hlocks := B.notSynchronized
  subst hsz
  have hD := hD0.self (sz := s.heap.size)
  generalize hAe : va_A [] s.heap.size = A at hD ⊢
  have hA : ∀ q : Nat, s.heap.size ≤ q → A q := fun q h => by rw [← hAe]; exact Or.inr h
  have hS : va_S A s.heap s.heap [] := va_S.rf
  have hP : va_P (dC, dI) vwCl [] s.heap := hP
  have hl := lv_entry ([.int p0]) (n := 3) (Nat.le_of_ble_eq_true rfl)
  rw [lg_entry_eq]
  generalize (lg_sl ([.int p0]) ++ List.replicate (3 - (lg_sl ([.int p0])).length) Slot.unset).toArray = ls at hl ⊢
  have hl : lv_has ls 3 [(0, .int p0)] := hl
  refine lv_iconst (v := 0) hx hb dX8_bytesOf_0 (by decide) ?_
  refine lv_istore_n (lv' := [(1, .int 0), (0, .int p0)]) hx hb dX8_bytesOf_1 rfl hl (by decide) rfl (fun ls hl => ?_)
  refine lv_bipush (v := 24) hx hb dX8_bytesOf_2 (by decide) ?_
  refine lv_istore_n (lv' := [(2, .int 24), (1, .int 0), (0, .int p0)]) hx hb dX8_bytesOf_4 rfl hl (by decide) rfl (fun ls hl => ?_)
  refine lv_iload_n hx hb dX8_bytesOf_5 rfl (lv_at hl 0 rfl) ?_
  refine lv_if_lt (tgt := 28) hx hb dX8_bytesOf_6 (by decide) (fun c_1 => absurd c_1 (by decide)) (fun c_1 => ?_)
  refine lv_iload_n hx hb dX8_bytesOf_9 rfl (lv_at hl 2 rfl) ?_
  refine lv_iload_n hx hb dX8_bytesOf_10 rfl (lv_at hl 0 rfl) ?_
  refine lv_iushr (v := (p0.toUInt32 >>> ((24 : Int32).toUInt32 &&& Int32.toUInt32 31)).toInt32) hx hb dX8_bytesOf_11 rfl ?_
  refine lv_sipush (v := 255) hx hb dX8_bytesOf_12 (by decide) ?_
  refine lv_iand hx hb dX8_bytesOf_15 ?_
  refine lv_topi (fun v_2 e_2 => ?_)
  refine lv_ifinc (k := 1) hx hb dX8_bytesOf_16 (by decide) dX8_bytesOf_19 rfl hl rfl (by decide) (fun y_3 ls ey_3 hl => ?_)
  obtain rfl : y_3 = nI (0 + bz p0 24) := by rw [ey_3]; by_cases h : v_2 = 0; exact (by rw [if_pos h, bz0 (show v_2 = uA p0 24 from e_2) h]; rfl); exact (by rw [if_neg h, bz1 (show v_2 = uA p0 24 from e_2) h]; exact nI_1 0)
  have hl : lv_has ls 3 [(1, .int (nI (0 + bz p0 24))), (2, .int 24), (0, .int p0)] := hl
  refine lv_iinc (v := 16) (lv' := [(2, .int 16), (1, .int (nI (0 + bz p0 24))), (0, .int p0)]) hx hb dX8_bytesOf_22 hl (k := 1) rfl (by decide) (by decide) rfl (fun ls hl => ?_)
  refine lv_goto (tgt := 5) hx hb dX8_bytesOf_25 (by decide) ?_
  refine lv_iload_n hx hb dX8_bytesOf_5 rfl (lv_at hl 0 rfl) ?_
  refine lv_if_lt (tgt := 28) hx hb dX8_bytesOf_6 (by decide) (fun c_4 => absurd c_4 (by decide)) (fun c_4 => ?_)
  refine lv_iload_n hx hb dX8_bytesOf_9 rfl (lv_at hl 2 rfl) ?_
  refine lv_iload_n hx hb dX8_bytesOf_10 rfl (lv_at hl 0 rfl) ?_
  refine lv_iushr (v := (p0.toUInt32 >>> ((16 : Int32).toUInt32 &&& Int32.toUInt32 31)).toInt32) hx hb dX8_bytesOf_11 rfl ?_
  refine lv_sipush (v := 255) hx hb dX8_bytesOf_12 (by decide) ?_
  refine lv_iand hx hb dX8_bytesOf_15 ?_
  refine lv_topi (fun v_5 e_5 => ?_)
  refine lv_ifinc (k := 1) hx hb dX8_bytesOf_16 (by decide) dX8_bytesOf_19 rfl hl rfl (by decide) (fun y_6 ls ey_6 hl => ?_)
  obtain rfl : y_6 = nI ((0 + bz p0 24) + bz p0 16) := by rw [ey_6]; by_cases h : v_5 = 0; exact (by rw [if_pos h, bz0 (show v_5 = uA p0 16 from e_5) h]; rfl); exact (by rw [if_neg h, bz1 (show v_5 = uA p0 16 from e_5) h]; exact nI_1 (0 + bz p0 24))
  have hl : lv_has ls 3 [(1, .int (nI ((0 + bz p0 24) + bz p0 16))), (2, .int 16), (0, .int p0)] := hl
  refine lv_iinc (v := 8) (lv' := [(2, .int 8), (1, .int (nI ((0 + bz p0 24) + bz p0 16))), (0, .int p0)]) hx hb dX8_bytesOf_22 hl (k := 1) rfl (by decide) (by decide) rfl (fun ls hl => ?_)
  refine lv_goto (tgt := 5) hx hb dX8_bytesOf_25 (by decide) ?_
  refine lv_iload_n hx hb dX8_bytesOf_5 rfl (lv_at hl 0 rfl) ?_
  refine lv_if_lt (tgt := 28) hx hb dX8_bytesOf_6 (by decide) (fun c_7 => absurd c_7 (by decide)) (fun c_7 => ?_)
  refine lv_iload_n hx hb dX8_bytesOf_9 rfl (lv_at hl 2 rfl) ?_
  refine lv_iload_n hx hb dX8_bytesOf_10 rfl (lv_at hl 0 rfl) ?_
  refine lv_iushr (v := (p0.toUInt32 >>> ((8 : Int32).toUInt32 &&& Int32.toUInt32 31)).toInt32) hx hb dX8_bytesOf_11 rfl ?_
  refine lv_sipush (v := 255) hx hb dX8_bytesOf_12 (by decide) ?_
  refine lv_iand hx hb dX8_bytesOf_15 ?_
  refine lv_topi (fun v_8 e_8 => ?_)
  refine lv_ifinc (k := 1) hx hb dX8_bytesOf_16 (by decide) dX8_bytesOf_19 rfl hl rfl (by decide) (fun y_9 ls ey_9 hl => ?_)
  obtain rfl : y_9 = nI (((0 + bz p0 24) + bz p0 16) + bz p0 8) := by rw [ey_9]; by_cases h : v_8 = 0; exact (by rw [if_pos h, bz0 (show v_8 = uA p0 8 from e_8) h]; rfl); exact (by rw [if_neg h, bz1 (show v_8 = uA p0 8 from e_8) h]; exact nI_1 ((0 + bz p0 24) + bz p0 16))
  have hl : lv_has ls 3 [(1, .int (nI (((0 + bz p0 24) + bz p0 16) + bz p0 8))), (2, .int 8), (0, .int p0)] := hl
  refine lv_iinc (v := 0) (lv' := [(2, .int 0), (1, .int (nI (((0 + bz p0 24) + bz p0 16) + bz p0 8))), (0, .int p0)]) hx hb dX8_bytesOf_22 hl (k := 1) rfl (by decide) (by decide) rfl (fun ls hl => ?_)
  refine lv_goto (tgt := 5) hx hb dX8_bytesOf_25 (by decide) ?_
  refine lv_iload_n hx hb dX8_bytesOf_5 rfl (lv_at hl 0 rfl) ?_
  refine lv_if_lt (tgt := 28) hx hb dX8_bytesOf_6 (by decide) (fun c_10 => absurd c_10 (by decide)) (fun c_10 => ?_)
  refine lv_iload_n hx hb dX8_bytesOf_9 rfl (lv_at hl 2 rfl) ?_
  refine lv_iload_n hx hb dX8_bytesOf_10 rfl (lv_at hl 0 rfl) ?_
  refine lv_iushr (v := (p0.toUInt32 >>> ((0 : Int32).toUInt32 &&& Int32.toUInt32 31)).toInt32) hx hb dX8_bytesOf_11 rfl ?_
  refine lv_sipush (v := 255) hx hb dX8_bytesOf_12 (by decide) ?_
  refine lv_iand hx hb dX8_bytesOf_15 ?_
  refine lv_topi (fun v_11 e_11 => ?_)
  refine lv_ifinc (k := 1) hx hb dX8_bytesOf_16 (by decide) dX8_bytesOf_19 rfl hl rfl (by decide) (fun y_12 ls ey_12 hl => ?_)
  obtain rfl : y_12 = nI ((((0 + bz p0 24) + bz p0 16) + bz p0 8) + bz p0 0) := by rw [ey_12]; by_cases h : v_11 = 0; exact (by rw [if_pos h, bz0 (show v_11 = uA p0 0 from e_11) h]; rfl); exact (by rw [if_neg h, bz1 (show v_11 = uA p0 0 from e_11) h]; exact nI_1 (((0 + bz p0 24) + bz p0 16) + bz p0 8))
  have hl : lv_has ls 3 [(1, .int (nI ((((0 + bz p0 24) + bz p0 16) + bz p0 8) + bz p0 0))), (2, .int 0), (0, .int p0)] := hl
  refine lv_iinc (v := (-8)) (lv' := [(2, .int (-8)), (1, .int (nI ((((0 + bz p0 24) + bz p0 16) + bz p0 8) + bz p0 0))), (0, .int p0)]) hx hb dX8_bytesOf_22 hl (k := 1) rfl (by decide) (by decide) rfl (fun ls hl => ?_)
  refine lv_goto (tgt := 5) hx hb dX8_bytesOf_25 (by decide) ?_
  refine lv_iload_n hx hb dX8_bytesOf_5 rfl (lv_at hl 0 rfl) ?_
  refine lv_if_lt (tgt := 28) hx hb dX8_bytesOf_6 (by decide) (fun c_13 => ?_) (fun c_13 => absurd (by decide) c_13)
  refine lv_iload_n hx hb dX8_bytesOf_28 rfl (lv_at hl 1 rfl) ?_
  exact W.iret (v := (nI ((((0 + bz p0 24) + bz p0 16) + bz p0 8) + bz p0 0))) hx hb hr (fun t ht hW => ⟨⟨(nI ((((0 + bz p0 24) + bz p0 16) + bz p0 8) + bz p0 0)), (), rfl, congrArg nI (by unfold cA; omega), trivial⟩, hS.F ht⟩) hS.2.2 dX8_bytesOf_29
def vs_f_X12_bytesIn : List Cond := .code yX12_bytesIn cX12_bytesIn 3 (some .int) :: ([])
set_option maxHeartbeats 4000000 in
set_option maxRecDepth 100000 in
theorem f_X12_bytesIn (l : Launch) (dC : Nat → ClassId) (dI : Nat → Nat → Nat) (sz : Nat) (p0 : Int32) : Met l yX12_bytesIn vs_f_X12_bytesIn ({ frames := 0, cells := 0, slots := 0, locals := 0 }) (va_Pc [.int p0] (cW dC dI [] [] sz)) (va_Qi (fun (r : Int32) (_ : Unit) => r = nI (cA p0)) (fun (_ : Unit) (t : State) => True) (va_A [] sz)) 0 0 (va_A [] sz) := by
  refine Met.ofW (cc := cX12_bytesIn) (maxL := 3) (ret := (some .int)) (by decide) rfl ?_
  intro p e s m args below meth c s₁ B hml hv
  obtain ⟨rfl, hsz, hP, hK, hD0, hG⟩ := hv
  have hx := B.exec
  have hb := B.bytes
  have hr := B.returns
  have hts := atoms_spec (ws := vs_f_X12_bytesIn) B.pre
  have hown : s.vm.findClass RX12 = some m.cls := findClass_of_methodNamed B.named
  have hlocks := B.notSynchronized
  subst hsz
  have hD := hD0.self (sz := s.heap.size)
  generalize hAe : va_A [] s.heap.size = A at hD ⊢
  have hA : ∀ q : Nat, s.heap.size ≤ q → A q := fun q h => by rw [← hAe]; exact Or.inr h
  have hS : va_S A s.heap s.heap [] := va_S.rf
  have hP : va_P (dC, dI) vwCl [] s.heap := hP
  have hl := lv_entry ([.int p0]) (n := 3) (Nat.le_of_ble_eq_true rfl)
  rw [lg_entry_eq]
  generalize (lg_sl ([.int p0]) ++ List.replicate (3 - (lg_sl ([.int p0])).length) Slot.unset).toArray = ls at hl ⊢
  have hl : lv_has ls 3 [(0, .int p0)] := hl
  refine lv_iconst (v := 0) hx hb dX12_bytesIn_0 (by decide) ?_
  refine lv_istore_n (lv' := [(1, .int 0), (0, .int p0)]) hx hb dX12_bytesIn_1 rfl hl (by decide) rfl (fun ls hl => ?_)
  refine lv_bipush (v := 24) hx hb dX12_bytesIn_2 (by decide) ?_
  refine lv_istore_n (lv' := [(2, .int 24), (1, .int 0), (0, .int p0)]) hx hb dX12_bytesIn_4 rfl hl (by decide) rfl (fun ls hl => ?_)
  refine lv_iload_n hx hb dX12_bytesIn_5 rfl (lv_at hl 0 rfl) ?_
  refine lv_if_lt (tgt := 33) hx hb dX12_bytesIn_6 (by decide) (fun c_1 => absurd c_1 (by decide)) (fun c_1 => ?_)
  refine lv_iload_n hx hb dX12_bytesIn_9 rfl (lv_at hl 1 rfl) ?_
  refine lv_iload_n hx hb dX12_bytesIn_10 rfl (lv_at hl 2 rfl) ?_
  refine lv_iload_n hx hb dX12_bytesIn_11 rfl (lv_at hl 0 rfl) ?_
  refine lv_ishr hx hb dX12_bytesIn_12 ?_
  refine lv_sipush (v := 255) hx hb dX12_bytesIn_13 (by decide) ?_
  refine lv_iand hx hb dX12_bytesIn_16 ?_
  refine lv_topi (fun v_2 e_2 => ?_)
  refine lv_tern (a := 1) (b := 0) hx hb dX12_bytesIn_17 (by decide) dX12_bytesIn_20 (by decide) dX12_bytesIn_21 (by decide) dX12_bytesIn_24 (by decide) rfl (fun y_3 ey_3 => ?_)
  obtain rfl : y_3 = nI (bz p0 24) := by rw [ey_3]; by_cases h : v_2 = 0; exact (by rw [if_pos h, bz0 (show v_2 = uA p0 24 from sA_u 24 rfl (by decide) e_2) h]; rfl); exact (by rw [if_neg h, bz1 (show v_2 = uA p0 24 from sA_u 24 rfl (by decide) e_2) h]; rfl)
  refine lv_iadd hx hb dX12_bytesIn_25 ?_
  refine lv_topi (fun v_4 e_4 => ?_)
  obtain rfl : v_4 = nI (0 + (bz p0 24)) := by rw [e_4]; exact nI_add 0 (bz p0 24)
  refine lv_istore_n (lv' := [(1, .int (nI (0 + (bz p0 24)))), (2, .int 24), (0, .int p0)]) hx hb dX12_bytesIn_26 rfl hl (by decide) rfl (fun ls hl => ?_)
  refine lv_iinc (v := 16) (lv' := [(2, .int 16), (1, .int (nI (0 + (bz p0 24)))), (0, .int p0)]) hx hb dX12_bytesIn_27 hl (k := 1) rfl (by decide) (by decide) rfl (fun ls hl => ?_)
  refine lv_goto (tgt := 5) hx hb dX12_bytesIn_30 (by decide) ?_
  refine lv_iload_n hx hb dX12_bytesIn_5 rfl (lv_at hl 0 rfl) ?_
  refine lv_if_lt (tgt := 33) hx hb dX12_bytesIn_6 (by decide) (fun c_5 => absurd c_5 (by decide)) (fun c_5 => ?_)
  refine lv_iload_n hx hb dX12_bytesIn_9 rfl (lv_at hl 1 rfl) ?_
  refine lv_iload_n hx hb dX12_bytesIn_10 rfl (lv_at hl 2 rfl) ?_
  refine lv_iload_n hx hb dX12_bytesIn_11 rfl (lv_at hl 0 rfl) ?_
  refine lv_ishr hx hb dX12_bytesIn_12 ?_
  refine lv_sipush (v := 255) hx hb dX12_bytesIn_13 (by decide) ?_
  refine lv_iand hx hb dX12_bytesIn_16 ?_
  refine lv_topi (fun v_6 e_6 => ?_)
  refine lv_tern (a := 1) (b := 0) hx hb dX12_bytesIn_17 (by decide) dX12_bytesIn_20 (by decide) dX12_bytesIn_21 (by decide) dX12_bytesIn_24 (by decide) rfl (fun y_7 ey_7 => ?_)
  obtain rfl : y_7 = nI (bz p0 16) := by rw [ey_7]; by_cases h : v_6 = 0; exact (by rw [if_pos h, bz0 (show v_6 = uA p0 16 from sA_u 16 rfl (by decide) e_6) h]; rfl); exact (by rw [if_neg h, bz1 (show v_6 = uA p0 16 from sA_u 16 rfl (by decide) e_6) h]; rfl)
  refine lv_iadd hx hb dX12_bytesIn_25 ?_
  refine lv_topi (fun v_8 e_8 => ?_)
  obtain rfl : v_8 = nI ((0 + (bz p0 24)) + (bz p0 16)) := by rw [e_8]; exact nI_add (0 + (bz p0 24)) (bz p0 16)
  refine lv_istore_n (lv' := [(1, .int (nI ((0 + (bz p0 24)) + (bz p0 16)))), (2, .int 16), (0, .int p0)]) hx hb dX12_bytesIn_26 rfl hl (by decide) rfl (fun ls hl => ?_)
  refine lv_iinc (v := 8) (lv' := [(2, .int 8), (1, .int (nI ((0 + (bz p0 24)) + (bz p0 16)))), (0, .int p0)]) hx hb dX12_bytesIn_27 hl (k := 1) rfl (by decide) (by decide) rfl (fun ls hl => ?_)
  refine lv_goto (tgt := 5) hx hb dX12_bytesIn_30 (by decide) ?_
  refine lv_iload_n hx hb dX12_bytesIn_5 rfl (lv_at hl 0 rfl) ?_
  refine lv_if_lt (tgt := 33) hx hb dX12_bytesIn_6 (by decide) (fun c_9 => absurd c_9 (by decide)) (fun c_9 => ?_)
  refine lv_iload_n hx hb dX12_bytesIn_9 rfl (lv_at hl 1 rfl) ?_
  refine lv_iload_n hx hb dX12_bytesIn_10 rfl (lv_at hl 2 rfl) ?_
  refine lv_iload_n hx hb dX12_bytesIn_11 rfl (lv_at hl 0 rfl) ?_
  refine lv_ishr hx hb dX12_bytesIn_12 ?_
  refine lv_sipush (v := 255) hx hb dX12_bytesIn_13 (by decide) ?_
  refine lv_iand hx hb dX12_bytesIn_16 ?_
  refine lv_topi (fun v_10 e_10 => ?_)
  refine lv_tern (a := 1) (b := 0) hx hb dX12_bytesIn_17 (by decide) dX12_bytesIn_20 (by decide) dX12_bytesIn_21 (by decide) dX12_bytesIn_24 (by decide) rfl (fun y_11 ey_11 => ?_)
  obtain rfl : y_11 = nI (bz p0 8) := by rw [ey_11]; by_cases h : v_10 = 0; exact (by rw [if_pos h, bz0 (show v_10 = uA p0 8 from sA_u 8 rfl (by decide) e_10) h]; rfl); exact (by rw [if_neg h, bz1 (show v_10 = uA p0 8 from sA_u 8 rfl (by decide) e_10) h]; rfl)
  refine lv_iadd hx hb dX12_bytesIn_25 ?_
  refine lv_topi (fun v_12 e_12 => ?_)
  obtain rfl : v_12 = nI (((0 + (bz p0 24)) + (bz p0 16)) + (bz p0 8)) := by rw [e_12]; exact nI_add ((0 + (bz p0 24)) + (bz p0 16)) (bz p0 8)
  refine lv_istore_n (lv' := [(1, .int (nI (((0 + (bz p0 24)) + (bz p0 16)) + (bz p0 8)))), (2, .int 8), (0, .int p0)]) hx hb dX12_bytesIn_26 rfl hl (by decide) rfl (fun ls hl => ?_)
  refine lv_iinc (v := 0) (lv' := [(2, .int 0), (1, .int (nI (((0 + (bz p0 24)) + (bz p0 16)) + (bz p0 8)))), (0, .int p0)]) hx hb dX12_bytesIn_27 hl (k := 1) rfl (by decide) (by decide) rfl (fun ls hl => ?_)
  refine lv_goto (tgt := 5) hx hb dX12_bytesIn_30 (by decide) ?_
  refine lv_iload_n hx hb dX12_bytesIn_5 rfl (lv_at hl 0 rfl) ?_
  refine lv_if_lt (tgt := 33) hx hb dX12_bytesIn_6 (by decide) (fun c_13 => absurd c_13 (by decide)) (fun c_13 => ?_)
  refine lv_iload_n hx hb dX12_bytesIn_9 rfl (lv_at hl 1 rfl) ?_
  refine lv_iload_n hx hb dX12_bytesIn_10 rfl (lv_at hl 2 rfl) ?_
  refine lv_iload_n hx hb dX12_bytesIn_11 rfl (lv_at hl 0 rfl) ?_
  refine lv_ishr hx hb dX12_bytesIn_12 ?_
  refine lv_sipush (v := 255) hx hb dX12_bytesIn_13 (by decide) ?_
  refine lv_iand hx hb dX12_bytesIn_16 ?_
  refine lv_topi (fun v_14 e_14 => ?_)
  refine lv_tern (a := 1) (b := 0) hx hb dX12_bytesIn_17 (by decide) dX12_bytesIn_20 (by decide) dX12_bytesIn_21 (by decide) dX12_bytesIn_24 (by decide) rfl (fun y_15 ey_15 => ?_)
  obtain rfl : y_15 = nI (bz p0 0) := by rw [ey_15]; by_cases h : v_14 = 0; exact (by rw [if_pos h, bz0 (show v_14 = uA p0 0 from sA_u 0 rfl (by decide) e_14) h]; rfl); exact (by rw [if_neg h, bz1 (show v_14 = uA p0 0 from sA_u 0 rfl (by decide) e_14) h]; rfl)
  refine lv_iadd hx hb dX12_bytesIn_25 ?_
  refine lv_topi (fun v_16 e_16 => ?_)
  obtain rfl : v_16 = nI ((((0 + (bz p0 24)) + (bz p0 16)) + (bz p0 8)) + (bz p0 0)) := by rw [e_16]; exact nI_add (((0 + (bz p0 24)) + (bz p0 16)) + (bz p0 8)) (bz p0 0)
  refine lv_istore_n (lv' := [(1, .int (nI ((((0 + (bz p0 24)) + (bz p0 16)) + (bz p0 8)) + (bz p0 0)))), (2, .int 0), (0, .int p0)]) hx hb dX12_bytesIn_26 rfl hl (by decide) rfl (fun ls hl => ?_)
  refine lv_iinc (v := (-8)) (lv' := [(2, .int (-8)), (1, .int (nI ((((0 + (bz p0 24)) + (bz p0 16)) + (bz p0 8)) + (bz p0 0)))), (0, .int p0)]) hx hb dX12_bytesIn_27 hl (k := 1) rfl (by decide) (by decide) rfl (fun ls hl => ?_)
  refine lv_goto (tgt := 5) hx hb dX12_bytesIn_30 (by decide) ?_
  refine lv_iload_n hx hb dX12_bytesIn_5 rfl (lv_at hl 0 rfl) ?_
  refine lv_if_lt (tgt := 33) hx hb dX12_bytesIn_6 (by decide) (fun c_17 => ?_) (fun c_17 => absurd (by decide) c_17)
  refine lv_iload_n hx hb dX12_bytesIn_33 rfl (lv_at hl 1 rfl) ?_
  exact W.iret (v := (nI ((((0 + (bz p0 24)) + (bz p0 16)) + (bz p0 8)) + (bz p0 0)))) hx hb hr (fun t ht hW => ⟨⟨(nI ((((0 + (bz p0 24)) + (bz p0 16)) + (bz p0 8)) + (bz p0 0))), (), rfl, congrArg nI (by unfold cA; omega), trivial⟩, hS.F ht⟩) hS.2.2 dX12_bytesIn_34
def vs_f_X8_append : List Cond := .code yX8_append cX8_append 4 none :: ([.fieldLink RX8 15 "WallChapels$Tape" "length" "I", .fieldLink RX8 9 "WallChapels$Tape" "bytes" "[I"] ++ (u_ws RX8 TX8 4))
theorem vs_f_X8_append_uX8 : ∀ w ∈ u_ws RX8 TX8 4, w ∈ vs_f_X8_append := fun _ h => List.mem_cons_of_mem _ (List.mem_append_right _ (h))
set_option maxHeartbeats 4000000 in
set_option maxRecDepth 100000 in
theorem f_X8_append_24 {p : Program} {l : Launch} {e : Env} {R : Room} {s : State} {m : MethodId} {args : Array Value} {below : List Frame} {meth : Method} {c : Code} {H0 H : Heap} {locs : List Loc} {cells slots : Nat} {Q : State → Prop} {dC : Nat → ClassId} {dI : Nat → Nat → Nat} {A : Nat → Prop} {ls : Array Slot} (q : Nat → Nat) (kB : ClassId) (n : Nat) (hn : n < 200) (f : Nat → Int32) (p0 : Int32) (hx : p.tables.exec = Jvm.exec) (hb : c.code = cX8_append) (hts : ∀ w ∈ vs_f_X8_append, w.before args s = true) (hown : s.vm.findClass RX8 = some m.cls) (hG : gxP s) (hK : va_K (dC, dI) vwCl [(kB, .int)] s) (hP : va_P (dC, dI) vwCl [((q 0), .inr (8, [.ref (q 16), .int (nI n), .int 0, .int 0])), ((q 16), .inl (kB, 240, .inl f))] H) (hD : va_D A [((q 0), .inr (8, [.ref (q 16), .int (nI n), .int 0, .int 0])), ((q 16), .inl (kB, 240, .inl f))]) (hS : va_S A H0 H locs) (hl : lv_has ls 4 [(0, .ref (q 0)), (1, .int p0), (2, .int 24)])
    (kk : ∀ (H : Heap) (locs : List Loc) (n2 : Nat) (f2 : Nat → Int32) (ls : Array Slot), n2 = n + bz p0 24 → va_P (dC, dI) vwCl [((q 0), .inr (8, [.ref (q 16), .int (nI n2), .int 0, .int 0])), ((q 16), .inl (kB, 240, .inl f2))] H → va_D A [((q 0), .inr (8, [.ref (q 16), .int (nI n2), .int 0, .int 0])), ((q 16), .inl (kB, 240, .inl f2))] → va_S A H0 H locs → lv_has ls 4 [(0, .ref (q 0)), (1, .int p0), (2, .int 16)] → W p l e R s m args below meth c H locs cells slots Q (F0 m 3 ls [])) : W p l e R s m args below meth c H locs cells slots Q (F0 m 3 ls []) := by
  have hiX8 : ∀ w ∈ u_ws RX8 TX8 4, w ∈ vs_f_X8_append := vs_f_X8_append_uX8
  refine lv_iload_n hx hb dX8_append_3 rfl (lv_at hl 2 rfl) ?_
  refine lv_if_lt (tgt := 55) hx hb dX8_append_4 (by decide) (fun c_1 => absurd c_1 (by decide)) (fun c_1 => ?_)
  refine lv_iload_n hx hb dX8_append_7 rfl (lv_at hl 1 rfl) ?_
  refine lv_iload_n hx hb dX8_append_8 rfl (lv_at hl 2 rfl) ?_
  refine lv_iushr (v := (p0.toUInt32 >>> ((24 : Int32).toUInt32 &&& Int32.toUInt32 31)).toInt32) hx hb dX8_append_9 rfl ?_
  refine lv_sipush (v := 255) hx hb dX8_append_10 (by decide) ?_
  refine lv_iand hx hb dX8_append_13 ?_
  refine lv_topi (fun v_2 e_2 => ?_)
  refine lv_istore_n (lv' := [(3, .int v_2), (0, .ref (q 0)), (1, .int p0), (2, .int 24)]) hx hb dX8_append_14 rfl hl (by decide) rfl (fun ls hl => ?_)
  refine lv_iload_n hx hb dX8_append_15 rfl (lv_at hl 0 rfl) ?_
  refine lv_if_eq (tgt := 49) hx hb dX8_append_16 (by decide) (fun c_z => ?_) (fun c_z => ?_)
  · refine lv_iinc (v := 16) (lv' := [(2, .int 16), (3, .int v_2), (0, .ref (q 0)), (1, .int p0)]) hx hb dX8_append_49 hl (k := 3) rfl (by decide) (by decide) rfl (fun ls hl => ?_)
    refine lv_goto (tgt := 3) hx hb dX8_append_52 (by decide) ?_
    exact kk _ _ _ _ ls (by rw [bz0 (show v_2 = uA p0 24 from e_2) c_z]; rfl) hP hD hS (lv_sub hl [2, 3, 0] rfl)
  · refine lv_aload_n hx hb dX8_append_19 rfl (lv_at hl 1 rfl) ?_
    refine va_get (D := (dC, dI)) (ci := 8) (v := .int (nI n)) (C := RX8) (T := TX8) (N := 4) hx hb hts hiX8 hown hK hP 0 rfl rfl 1 (by decide) (hts (.fieldLink RX8 15 "WallChapels$Tape" "length" "I") (by decide +kernel)) (fun _ h9 => h9) rfl dX8_append_20 ?_
    refine lv_sipush (v := 240) hx hb dX8_append_23 (by decide) ?_
    refine lv_icmp_ge (tgt := 49) hx hb dX8_append_26 (by decide) (fun c9 => absurd c9 (nI_ge (a := n) (b := 240) (by omega) (by decide))) (fun _ => ?_)
    refine lv_aload_n hx hb dX8_append_29 rfl (lv_at hl 1 rfl) ?_
    refine va_get (D := (dC, dI)) (ci := 8) (v := .ref (q 16)) (C := RX8) (T := TX8) (N := 4) hx hb hts hiX8 hown hK hP 0 rfl rfl 0 (by decide) (hts (.fieldLink RX8 9 "WallChapels$Tape" "bytes" "[I") (by decide +kernel)) (fun _ h9 => h9) rfl dX8_append_30 ?_
    refine lv_aload_n hx hb dX8_append_33 rfl (lv_at hl 1 rfl) ?_
    refine va_get (D := (dC, dI)) (ci := 8) (v := .int (nI n)) (C := RX8) (T := TX8) (N := 4) hx hb hts hiX8 hown hK hP 0 rfl rfl 1 (by decide) (hts (.fieldLink RX8 15 "WallChapels$Tape" "length" "I") (by decide +kernel)) (fun _ h9 => h9) rfl dX8_append_34 ?_
    refine lv_iload_n hx hb dX8_append_37 rfl (lv_at hl 0 rfl) ?_
    refine va_iast (D := (dC, dI)) hx hb hK hP hD hS 1 0 rfl rfl (i := nI n) (vp_in_nI (by omega) (by decide)) dX8_append_38 (fun H locs hP hD hS => ?_)
    have hP : va_P (dC, dI) vwCl [((q 0), .inr (8, [.ref (q 16), .int (nI n), .int 0, .int 0])), ((q 16), .inl (kB, 240, .inl (upd f (nI n).toNatClampNeg v_2)))] H := hP
    have hD : va_D A [((q 0), .inr (8, [.ref (q 16), .int (nI n), .int 0, .int 0])), ((q 16), .inl (kB, 240, .inl (upd f (nI n).toNatClampNeg v_2)))] := hD
    refine lv_aload_n hx hb dX8_append_39 rfl (lv_at hl 1 rfl) ?_
    refine lv_dup hx hb dX8_append_40 rfl ?_
    refine va_get (D := (dC, dI)) (ci := 8) (v := .int (nI n)) (C := RX8) (T := TX8) (N := 4) hx hb hts hiX8 hown hK hP 0 rfl rfl 1 (by decide) (hts (.fieldLink RX8 15 "WallChapels$Tape" "length" "I") (by decide +kernel)) (fun _ h9 => h9) rfl dX8_append_41 ?_
    refine lv_iconst (v := 1) hx hb dX8_append_44 (by decide) ?_
    refine lv_iadd hx hb dX8_append_45 ?_
    refine lv_topi (fun v_3 e_3 => ?_)
    obtain rfl : v_3 = nI (n + 1) := by rw [e_3]; exact nI_add n 1
    refine va_put (D := (dC, dI)) (ci := 8) (v := .int (nI (n + 1))) (ty := .int) (C := RX8) (T := TX8) (N := 4) hx hb hts hiX8 tyX8 tyX8_ok nmX8 hown hK hP hD hS 0 rfl rfl 1 (by decide) (hts (.fieldLink RX8 15 "WallChapels$Tape" "length" "I") (by decide +kernel)) (fun _ h9 => h9) rfl (by decide +kernel) rfl rfl (Nat.le_of_ble_eq_true rfl) dX8_append_46 (fun H locs hP hD hS => ?_)
    have hP : va_P (dC, dI) vwCl [((q 0), .inr (8, [.ref (q 16), .int (nI (n + 1)), .int 0, .int 0])), ((q 16), .inl (kB, 240, .inl (upd f (nI n).toNatClampNeg v_2)))] H := hP
    have hD : va_D A [((q 0), .inr (8, [.ref (q 16), .int (nI (n + 1)), .int 0, .int 0])), ((q 16), .inl (kB, 240, .inl (upd f (nI n).toNatClampNeg v_2)))] := hD
    refine lv_iinc (v := 16) (lv' := [(2, .int 16), (3, .int v_2), (0, .ref (q 0)), (1, .int p0)]) hx hb dX8_append_49 hl (k := 3) rfl (by decide) (by decide) rfl (fun ls hl => ?_)
    refine lv_goto (tgt := 3) hx hb dX8_append_52 (by decide) ?_
    exact kk _ _ _ _ ls (by rw [bz1 (show v_2 = uA p0 24 from e_2) c_z]) hP hD hS (lv_sub hl [2, 3, 0] rfl)
set_option maxHeartbeats 4000000 in
set_option maxRecDepth 100000 in
theorem f_X8_append_16 {p : Program} {l : Launch} {e : Env} {R : Room} {s : State} {m : MethodId} {args : Array Value} {below : List Frame} {meth : Method} {c : Code} {H0 H : Heap} {locs : List Loc} {cells slots : Nat} {Q : State → Prop} {dC : Nat → ClassId} {dI : Nat → Nat → Nat} {A : Nat → Prop} {ls : Array Slot} (q : Nat → Nat) (kB : ClassId) (n : Nat) (hn : n < 200) (f : Nat → Int32) (p0 : Int32) (hx : p.tables.exec = Jvm.exec) (hb : c.code = cX8_append) (hts : ∀ w ∈ vs_f_X8_append, w.before args s = true) (hown : s.vm.findClass RX8 = some m.cls) (hG : gxP s) (hK : va_K (dC, dI) vwCl [(kB, .int)] s) (hP : va_P (dC, dI) vwCl [((q 0), .inr (8, [.ref (q 16), .int (nI n), .int 0, .int 0])), ((q 16), .inl (kB, 240, .inl f))] H) (hD : va_D A [((q 0), .inr (8, [.ref (q 16), .int (nI n), .int 0, .int 0])), ((q 16), .inl (kB, 240, .inl f))]) (hS : va_S A H0 H locs) (hl : lv_has ls 4 [(0, .ref (q 0)), (1, .int p0), (2, .int 16)])
    (kk : ∀ (H : Heap) (locs : List Loc) (n2 : Nat) (f2 : Nat → Int32) (ls : Array Slot), n2 = n + bz p0 16 → va_P (dC, dI) vwCl [((q 0), .inr (8, [.ref (q 16), .int (nI n2), .int 0, .int 0])), ((q 16), .inl (kB, 240, .inl f2))] H → va_D A [((q 0), .inr (8, [.ref (q 16), .int (nI n2), .int 0, .int 0])), ((q 16), .inl (kB, 240, .inl f2))] → va_S A H0 H locs → lv_has ls 4 [(0, .ref (q 0)), (1, .int p0), (2, .int 8)] → W p l e R s m args below meth c H locs cells slots Q (F0 m 3 ls [])) : W p l e R s m args below meth c H locs cells slots Q (F0 m 3 ls []) := by
  have hiX8 : ∀ w ∈ u_ws RX8 TX8 4, w ∈ vs_f_X8_append := vs_f_X8_append_uX8
  refine lv_iload_n hx hb dX8_append_3 rfl (lv_at hl 2 rfl) ?_
  refine lv_if_lt (tgt := 55) hx hb dX8_append_4 (by decide) (fun c_4 => absurd c_4 (by decide)) (fun c_4 => ?_)
  refine lv_iload_n hx hb dX8_append_7 rfl (lv_at hl 1 rfl) ?_
  refine lv_iload_n hx hb dX8_append_8 rfl (lv_at hl 2 rfl) ?_
  refine lv_iushr (v := (p0.toUInt32 >>> ((16 : Int32).toUInt32 &&& Int32.toUInt32 31)).toInt32) hx hb dX8_append_9 rfl ?_
  refine lv_sipush (v := 255) hx hb dX8_append_10 (by decide) ?_
  refine lv_iand hx hb dX8_append_13 ?_
  refine lv_topi (fun v_5 e_5 => ?_)
  refine lv_istore_n (lv' := [(3, .int v_5), (0, .ref (q 0)), (1, .int p0), (2, .int 16)]) hx hb dX8_append_14 rfl hl (by decide) rfl (fun ls hl => ?_)
  refine lv_iload_n hx hb dX8_append_15 rfl (lv_at hl 0 rfl) ?_
  refine lv_if_eq (tgt := 49) hx hb dX8_append_16 (by decide) (fun c_z => ?_) (fun c_z => ?_)
  · refine lv_iinc (v := 8) (lv' := [(2, .int 8), (3, .int v_5), (0, .ref (q 0)), (1, .int p0)]) hx hb dX8_append_49 hl (k := 3) rfl (by decide) (by decide) rfl (fun ls hl => ?_)
    refine lv_goto (tgt := 3) hx hb dX8_append_52 (by decide) ?_
    exact kk _ _ _ _ ls (by rw [bz0 (show v_5 = uA p0 16 from e_5) c_z]; rfl) hP hD hS (lv_sub hl [2, 3, 0] rfl)
  · refine lv_aload_n hx hb dX8_append_19 rfl (lv_at hl 1 rfl) ?_
    refine va_get (D := (dC, dI)) (ci := 8) (v := .int (nI n)) (C := RX8) (T := TX8) (N := 4) hx hb hts hiX8 hown hK hP 0 rfl rfl 1 (by decide) (hts (.fieldLink RX8 15 "WallChapels$Tape" "length" "I") (by decide +kernel)) (fun _ h9 => h9) rfl dX8_append_20 ?_
    refine lv_sipush (v := 240) hx hb dX8_append_23 (by decide) ?_
    refine lv_icmp_ge (tgt := 49) hx hb dX8_append_26 (by decide) (fun c9 => absurd c9 (nI_ge (a := n) (b := 240) (by omega) (by decide))) (fun _ => ?_)
    refine lv_aload_n hx hb dX8_append_29 rfl (lv_at hl 1 rfl) ?_
    refine va_get (D := (dC, dI)) (ci := 8) (v := .ref (q 16)) (C := RX8) (T := TX8) (N := 4) hx hb hts hiX8 hown hK hP 0 rfl rfl 0 (by decide) (hts (.fieldLink RX8 9 "WallChapels$Tape" "bytes" "[I") (by decide +kernel)) (fun _ h9 => h9) rfl dX8_append_30 ?_
    refine lv_aload_n hx hb dX8_append_33 rfl (lv_at hl 1 rfl) ?_
    refine va_get (D := (dC, dI)) (ci := 8) (v := .int (nI n)) (C := RX8) (T := TX8) (N := 4) hx hb hts hiX8 hown hK hP 0 rfl rfl 1 (by decide) (hts (.fieldLink RX8 15 "WallChapels$Tape" "length" "I") (by decide +kernel)) (fun _ h9 => h9) rfl dX8_append_34 ?_
    refine lv_iload_n hx hb dX8_append_37 rfl (lv_at hl 0 rfl) ?_
    refine va_iast (D := (dC, dI)) hx hb hK hP hD hS 1 0 rfl rfl (i := nI n) (vp_in_nI (by omega) (by decide)) dX8_append_38 (fun H locs hP hD hS => ?_)
    have hP : va_P (dC, dI) vwCl [((q 0), .inr (8, [.ref (q 16), .int (nI n), .int 0, .int 0])), ((q 16), .inl (kB, 240, .inl (upd f (nI n).toNatClampNeg v_5)))] H := hP
    have hD : va_D A [((q 0), .inr (8, [.ref (q 16), .int (nI n), .int 0, .int 0])), ((q 16), .inl (kB, 240, .inl (upd f (nI n).toNatClampNeg v_5)))] := hD
    refine lv_aload_n hx hb dX8_append_39 rfl (lv_at hl 1 rfl) ?_
    refine lv_dup hx hb dX8_append_40 rfl ?_
    refine va_get (D := (dC, dI)) (ci := 8) (v := .int (nI n)) (C := RX8) (T := TX8) (N := 4) hx hb hts hiX8 hown hK hP 0 rfl rfl 1 (by decide) (hts (.fieldLink RX8 15 "WallChapels$Tape" "length" "I") (by decide +kernel)) (fun _ h9 => h9) rfl dX8_append_41 ?_
    refine lv_iconst (v := 1) hx hb dX8_append_44 (by decide) ?_
    refine lv_iadd hx hb dX8_append_45 ?_
    refine lv_topi (fun v_6 e_6 => ?_)
    obtain rfl : v_6 = nI (n + 1) := by rw [e_6]; exact nI_add n 1
    refine va_put (D := (dC, dI)) (ci := 8) (v := .int (nI (n + 1))) (ty := .int) (C := RX8) (T := TX8) (N := 4) hx hb hts hiX8 tyX8 tyX8_ok nmX8 hown hK hP hD hS 0 rfl rfl 1 (by decide) (hts (.fieldLink RX8 15 "WallChapels$Tape" "length" "I") (by decide +kernel)) (fun _ h9 => h9) rfl (by decide +kernel) rfl rfl (Nat.le_of_ble_eq_true rfl) dX8_append_46 (fun H locs hP hD hS => ?_)
    have hP : va_P (dC, dI) vwCl [((q 0), .inr (8, [.ref (q 16), .int (nI (n + 1)), .int 0, .int 0])), ((q 16), .inl (kB, 240, .inl (upd f (nI n).toNatClampNeg v_5)))] H := hP
    have hD : va_D A [((q 0), .inr (8, [.ref (q 16), .int (nI (n + 1)), .int 0, .int 0])), ((q 16), .inl (kB, 240, .inl (upd f (nI n).toNatClampNeg v_5)))] := hD
    refine lv_iinc (v := 8) (lv' := [(2, .int 8), (3, .int v_5), (0, .ref (q 0)), (1, .int p0)]) hx hb dX8_append_49 hl (k := 3) rfl (by decide) (by decide) rfl (fun ls hl => ?_)
    refine lv_goto (tgt := 3) hx hb dX8_append_52 (by decide) ?_
    exact kk _ _ _ _ ls (by rw [bz1 (show v_5 = uA p0 16 from e_5) c_z]) hP hD hS (lv_sub hl [2, 3, 0] rfl)
set_option maxHeartbeats 4000000 in
set_option maxRecDepth 100000 in
theorem f_X8_append_8 {p : Program} {l : Launch} {e : Env} {R : Room} {s : State} {m : MethodId} {args : Array Value} {below : List Frame} {meth : Method} {c : Code} {H0 H : Heap} {locs : List Loc} {cells slots : Nat} {Q : State → Prop} {dC : Nat → ClassId} {dI : Nat → Nat → Nat} {A : Nat → Prop} {ls : Array Slot} (q : Nat → Nat) (kB : ClassId) (n : Nat) (hn : n < 200) (f : Nat → Int32) (p0 : Int32) (hx : p.tables.exec = Jvm.exec) (hb : c.code = cX8_append) (hts : ∀ w ∈ vs_f_X8_append, w.before args s = true) (hown : s.vm.findClass RX8 = some m.cls) (hG : gxP s) (hK : va_K (dC, dI) vwCl [(kB, .int)] s) (hP : va_P (dC, dI) vwCl [((q 0), .inr (8, [.ref (q 16), .int (nI n), .int 0, .int 0])), ((q 16), .inl (kB, 240, .inl f))] H) (hD : va_D A [((q 0), .inr (8, [.ref (q 16), .int (nI n), .int 0, .int 0])), ((q 16), .inl (kB, 240, .inl f))]) (hS : va_S A H0 H locs) (hl : lv_has ls 4 [(0, .ref (q 0)), (1, .int p0), (2, .int 8)])
    (kk : ∀ (H : Heap) (locs : List Loc) (n2 : Nat) (f2 : Nat → Int32) (ls : Array Slot), n2 = n + bz p0 8 → va_P (dC, dI) vwCl [((q 0), .inr (8, [.ref (q 16), .int (nI n2), .int 0, .int 0])), ((q 16), .inl (kB, 240, .inl f2))] H → va_D A [((q 0), .inr (8, [.ref (q 16), .int (nI n2), .int 0, .int 0])), ((q 16), .inl (kB, 240, .inl f2))] → va_S A H0 H locs → lv_has ls 4 [(0, .ref (q 0)), (1, .int p0), (2, .int 0)] → W p l e R s m args below meth c H locs cells slots Q (F0 m 3 ls [])) : W p l e R s m args below meth c H locs cells slots Q (F0 m 3 ls []) := by
  have hiX8 : ∀ w ∈ u_ws RX8 TX8 4, w ∈ vs_f_X8_append := vs_f_X8_append_uX8
  refine lv_iload_n hx hb dX8_append_3 rfl (lv_at hl 2 rfl) ?_
  refine lv_if_lt (tgt := 55) hx hb dX8_append_4 (by decide) (fun c_7 => absurd c_7 (by decide)) (fun c_7 => ?_)
  refine lv_iload_n hx hb dX8_append_7 rfl (lv_at hl 1 rfl) ?_
  refine lv_iload_n hx hb dX8_append_8 rfl (lv_at hl 2 rfl) ?_
  refine lv_iushr (v := (p0.toUInt32 >>> ((8 : Int32).toUInt32 &&& Int32.toUInt32 31)).toInt32) hx hb dX8_append_9 rfl ?_
  refine lv_sipush (v := 255) hx hb dX8_append_10 (by decide) ?_
  refine lv_iand hx hb dX8_append_13 ?_
  refine lv_topi (fun v_8 e_8 => ?_)
  refine lv_istore_n (lv' := [(3, .int v_8), (0, .ref (q 0)), (1, .int p0), (2, .int 8)]) hx hb dX8_append_14 rfl hl (by decide) rfl (fun ls hl => ?_)
  refine lv_iload_n hx hb dX8_append_15 rfl (lv_at hl 0 rfl) ?_
  refine lv_if_eq (tgt := 49) hx hb dX8_append_16 (by decide) (fun c_z => ?_) (fun c_z => ?_)
  · refine lv_iinc (v := 0) (lv' := [(2, .int 0), (3, .int v_8), (0, .ref (q 0)), (1, .int p0)]) hx hb dX8_append_49 hl (k := 3) rfl (by decide) (by decide) rfl (fun ls hl => ?_)
    refine lv_goto (tgt := 3) hx hb dX8_append_52 (by decide) ?_
    exact kk _ _ _ _ ls (by rw [bz0 (show v_8 = uA p0 8 from e_8) c_z]; rfl) hP hD hS (lv_sub hl [2, 3, 0] rfl)
  · refine lv_aload_n hx hb dX8_append_19 rfl (lv_at hl 1 rfl) ?_
    refine va_get (D := (dC, dI)) (ci := 8) (v := .int (nI n)) (C := RX8) (T := TX8) (N := 4) hx hb hts hiX8 hown hK hP 0 rfl rfl 1 (by decide) (hts (.fieldLink RX8 15 "WallChapels$Tape" "length" "I") (by decide +kernel)) (fun _ h9 => h9) rfl dX8_append_20 ?_
    refine lv_sipush (v := 240) hx hb dX8_append_23 (by decide) ?_
    refine lv_icmp_ge (tgt := 49) hx hb dX8_append_26 (by decide) (fun c9 => absurd c9 (nI_ge (a := n) (b := 240) (by omega) (by decide))) (fun _ => ?_)
    refine lv_aload_n hx hb dX8_append_29 rfl (lv_at hl 1 rfl) ?_
    refine va_get (D := (dC, dI)) (ci := 8) (v := .ref (q 16)) (C := RX8) (T := TX8) (N := 4) hx hb hts hiX8 hown hK hP 0 rfl rfl 0 (by decide) (hts (.fieldLink RX8 9 "WallChapels$Tape" "bytes" "[I") (by decide +kernel)) (fun _ h9 => h9) rfl dX8_append_30 ?_
    refine lv_aload_n hx hb dX8_append_33 rfl (lv_at hl 1 rfl) ?_
    refine va_get (D := (dC, dI)) (ci := 8) (v := .int (nI n)) (C := RX8) (T := TX8) (N := 4) hx hb hts hiX8 hown hK hP 0 rfl rfl 1 (by decide) (hts (.fieldLink RX8 15 "WallChapels$Tape" "length" "I") (by decide +kernel)) (fun _ h9 => h9) rfl dX8_append_34 ?_
    refine lv_iload_n hx hb dX8_append_37 rfl (lv_at hl 0 rfl) ?_
    refine va_iast (D := (dC, dI)) hx hb hK hP hD hS 1 0 rfl rfl (i := nI n) (vp_in_nI (by omega) (by decide)) dX8_append_38 (fun H locs hP hD hS => ?_)
    have hP : va_P (dC, dI) vwCl [((q 0), .inr (8, [.ref (q 16), .int (nI n), .int 0, .int 0])), ((q 16), .inl (kB, 240, .inl (upd f (nI n).toNatClampNeg v_8)))] H := hP
    have hD : va_D A [((q 0), .inr (8, [.ref (q 16), .int (nI n), .int 0, .int 0])), ((q 16), .inl (kB, 240, .inl (upd f (nI n).toNatClampNeg v_8)))] := hD
    refine lv_aload_n hx hb dX8_append_39 rfl (lv_at hl 1 rfl) ?_
    refine lv_dup hx hb dX8_append_40 rfl ?_
    refine va_get (D := (dC, dI)) (ci := 8) (v := .int (nI n)) (C := RX8) (T := TX8) (N := 4) hx hb hts hiX8 hown hK hP 0 rfl rfl 1 (by decide) (hts (.fieldLink RX8 15 "WallChapels$Tape" "length" "I") (by decide +kernel)) (fun _ h9 => h9) rfl dX8_append_41 ?_
    refine lv_iconst (v := 1) hx hb dX8_append_44 (by decide) ?_
    refine lv_iadd hx hb dX8_append_45 ?_
    refine lv_topi (fun v_9 e_9 => ?_)
    obtain rfl : v_9 = nI (n + 1) := by rw [e_9]; exact nI_add n 1
    refine va_put (D := (dC, dI)) (ci := 8) (v := .int (nI (n + 1))) (ty := .int) (C := RX8) (T := TX8) (N := 4) hx hb hts hiX8 tyX8 tyX8_ok nmX8 hown hK hP hD hS 0 rfl rfl 1 (by decide) (hts (.fieldLink RX8 15 "WallChapels$Tape" "length" "I") (by decide +kernel)) (fun _ h9 => h9) rfl (by decide +kernel) rfl rfl (Nat.le_of_ble_eq_true rfl) dX8_append_46 (fun H locs hP hD hS => ?_)
    have hP : va_P (dC, dI) vwCl [((q 0), .inr (8, [.ref (q 16), .int (nI (n + 1)), .int 0, .int 0])), ((q 16), .inl (kB, 240, .inl (upd f (nI n).toNatClampNeg v_8)))] H := hP
    have hD : va_D A [((q 0), .inr (8, [.ref (q 16), .int (nI (n + 1)), .int 0, .int 0])), ((q 16), .inl (kB, 240, .inl (upd f (nI n).toNatClampNeg v_8)))] := hD
    refine lv_iinc (v := 0) (lv' := [(2, .int 0), (3, .int v_8), (0, .ref (q 0)), (1, .int p0)]) hx hb dX8_append_49 hl (k := 3) rfl (by decide) (by decide) rfl (fun ls hl => ?_)
    refine lv_goto (tgt := 3) hx hb dX8_append_52 (by decide) ?_
    exact kk _ _ _ _ ls (by rw [bz1 (show v_8 = uA p0 8 from e_8) c_z]) hP hD hS (lv_sub hl [2, 3, 0] rfl)
set_option maxHeartbeats 4000000 in
set_option maxRecDepth 100000 in
theorem f_X8_append_0 {p : Program} {l : Launch} {e : Env} {R : Room} {s : State} {m : MethodId} {args : Array Value} {below : List Frame} {meth : Method} {c : Code} {H0 H : Heap} {locs : List Loc} {cells slots : Nat} {Q : State → Prop} {dC : Nat → ClassId} {dI : Nat → Nat → Nat} {A : Nat → Prop} {ls : Array Slot} (q : Nat → Nat) (kB : ClassId) (n : Nat) (hn : n < 200) (f : Nat → Int32) (p0 : Int32) (hx : p.tables.exec = Jvm.exec) (hb : c.code = cX8_append) (hts : ∀ w ∈ vs_f_X8_append, w.before args s = true) (hown : s.vm.findClass RX8 = some m.cls) (hG : gxP s) (hK : va_K (dC, dI) vwCl [(kB, .int)] s) (hP : va_P (dC, dI) vwCl [((q 0), .inr (8, [.ref (q 16), .int (nI n), .int 0, .int 0])), ((q 16), .inl (kB, 240, .inl f))] H) (hD : va_D A [((q 0), .inr (8, [.ref (q 16), .int (nI n), .int 0, .int 0])), ((q 16), .inl (kB, 240, .inl f))]) (hS : va_S A H0 H locs) (hl : lv_has ls 4 [(0, .ref (q 0)), (1, .int p0), (2, .int 0)])
    (kk : ∀ (H : Heap) (locs : List Loc) (n2 : Nat) (f2 : Nat → Int32) (ls : Array Slot), n2 = n + bz p0 0 → va_P (dC, dI) vwCl [((q 0), .inr (8, [.ref (q 16), .int (nI n2), .int 0, .int 0])), ((q 16), .inl (kB, 240, .inl f2))] H → va_D A [((q 0), .inr (8, [.ref (q 16), .int (nI n2), .int 0, .int 0])), ((q 16), .inl (kB, 240, .inl f2))] → va_S A H0 H locs → lv_has ls 4 [(0, .ref (q 0)), (1, .int p0), (2, .int (-8))] → W p l e R s m args below meth c H locs cells slots Q (F0 m 3 ls [])) : W p l e R s m args below meth c H locs cells slots Q (F0 m 3 ls []) := by
  have hiX8 : ∀ w ∈ u_ws RX8 TX8 4, w ∈ vs_f_X8_append := vs_f_X8_append_uX8
  refine lv_iload_n hx hb dX8_append_3 rfl (lv_at hl 2 rfl) ?_
  refine lv_if_lt (tgt := 55) hx hb dX8_append_4 (by decide) (fun c_10 => absurd c_10 (by decide)) (fun c_10 => ?_)
  refine lv_iload_n hx hb dX8_append_7 rfl (lv_at hl 1 rfl) ?_
  refine lv_iload_n hx hb dX8_append_8 rfl (lv_at hl 2 rfl) ?_
  refine lv_iushr (v := (p0.toUInt32 >>> ((0 : Int32).toUInt32 &&& Int32.toUInt32 31)).toInt32) hx hb dX8_append_9 rfl ?_
  refine lv_sipush (v := 255) hx hb dX8_append_10 (by decide) ?_
  refine lv_iand hx hb dX8_append_13 ?_
  refine lv_topi (fun v_11 e_11 => ?_)
  refine lv_istore_n (lv' := [(3, .int v_11), (0, .ref (q 0)), (1, .int p0), (2, .int 0)]) hx hb dX8_append_14 rfl hl (by decide) rfl (fun ls hl => ?_)
  refine lv_iload_n hx hb dX8_append_15 rfl (lv_at hl 0 rfl) ?_
  refine lv_if_eq (tgt := 49) hx hb dX8_append_16 (by decide) (fun c_z => ?_) (fun c_z => ?_)
  · refine lv_iinc (v := (-8)) (lv' := [(2, .int (-8)), (3, .int v_11), (0, .ref (q 0)), (1, .int p0)]) hx hb dX8_append_49 hl (k := 3) rfl (by decide) (by decide) rfl (fun ls hl => ?_)
    refine lv_goto (tgt := 3) hx hb dX8_append_52 (by decide) ?_
    exact kk _ _ _ _ ls (by rw [bz0 (show v_11 = uA p0 0 from e_11) c_z]; rfl) hP hD hS (lv_sub hl [2, 3, 0] rfl)
  · refine lv_aload_n hx hb dX8_append_19 rfl (lv_at hl 1 rfl) ?_
    refine va_get (D := (dC, dI)) (ci := 8) (v := .int (nI n)) (C := RX8) (T := TX8) (N := 4) hx hb hts hiX8 hown hK hP 0 rfl rfl 1 (by decide) (hts (.fieldLink RX8 15 "WallChapels$Tape" "length" "I") (by decide +kernel)) (fun _ h9 => h9) rfl dX8_append_20 ?_
    refine lv_sipush (v := 240) hx hb dX8_append_23 (by decide) ?_
    refine lv_icmp_ge (tgt := 49) hx hb dX8_append_26 (by decide) (fun c9 => absurd c9 (nI_ge (a := n) (b := 240) (by omega) (by decide))) (fun _ => ?_)
    refine lv_aload_n hx hb dX8_append_29 rfl (lv_at hl 1 rfl) ?_
    refine va_get (D := (dC, dI)) (ci := 8) (v := .ref (q 16)) (C := RX8) (T := TX8) (N := 4) hx hb hts hiX8 hown hK hP 0 rfl rfl 0 (by decide) (hts (.fieldLink RX8 9 "WallChapels$Tape" "bytes" "[I") (by decide +kernel)) (fun _ h9 => h9) rfl dX8_append_30 ?_
    refine lv_aload_n hx hb dX8_append_33 rfl (lv_at hl 1 rfl) ?_
    refine va_get (D := (dC, dI)) (ci := 8) (v := .int (nI n)) (C := RX8) (T := TX8) (N := 4) hx hb hts hiX8 hown hK hP 0 rfl rfl 1 (by decide) (hts (.fieldLink RX8 15 "WallChapels$Tape" "length" "I") (by decide +kernel)) (fun _ h9 => h9) rfl dX8_append_34 ?_
    refine lv_iload_n hx hb dX8_append_37 rfl (lv_at hl 0 rfl) ?_
    refine va_iast (D := (dC, dI)) hx hb hK hP hD hS 1 0 rfl rfl (i := nI n) (vp_in_nI (by omega) (by decide)) dX8_append_38 (fun H locs hP hD hS => ?_)
    have hP : va_P (dC, dI) vwCl [((q 0), .inr (8, [.ref (q 16), .int (nI n), .int 0, .int 0])), ((q 16), .inl (kB, 240, .inl (upd f (nI n).toNatClampNeg v_11)))] H := hP
    have hD : va_D A [((q 0), .inr (8, [.ref (q 16), .int (nI n), .int 0, .int 0])), ((q 16), .inl (kB, 240, .inl (upd f (nI n).toNatClampNeg v_11)))] := hD
    refine lv_aload_n hx hb dX8_append_39 rfl (lv_at hl 1 rfl) ?_
    refine lv_dup hx hb dX8_append_40 rfl ?_
    refine va_get (D := (dC, dI)) (ci := 8) (v := .int (nI n)) (C := RX8) (T := TX8) (N := 4) hx hb hts hiX8 hown hK hP 0 rfl rfl 1 (by decide) (hts (.fieldLink RX8 15 "WallChapels$Tape" "length" "I") (by decide +kernel)) (fun _ h9 => h9) rfl dX8_append_41 ?_
    refine lv_iconst (v := 1) hx hb dX8_append_44 (by decide) ?_
    refine lv_iadd hx hb dX8_append_45 ?_
    refine lv_topi (fun v_12 e_12 => ?_)
    obtain rfl : v_12 = nI (n + 1) := by rw [e_12]; exact nI_add n 1
    refine va_put (D := (dC, dI)) (ci := 8) (v := .int (nI (n + 1))) (ty := .int) (C := RX8) (T := TX8) (N := 4) hx hb hts hiX8 tyX8 tyX8_ok nmX8 hown hK hP hD hS 0 rfl rfl 1 (by decide) (hts (.fieldLink RX8 15 "WallChapels$Tape" "length" "I") (by decide +kernel)) (fun _ h9 => h9) rfl (by decide +kernel) rfl rfl (Nat.le_of_ble_eq_true rfl) dX8_append_46 (fun H locs hP hD hS => ?_)
    have hP : va_P (dC, dI) vwCl [((q 0), .inr (8, [.ref (q 16), .int (nI (n + 1)), .int 0, .int 0])), ((q 16), .inl (kB, 240, .inl (upd f (nI n).toNatClampNeg v_11)))] H := hP
    have hD : va_D A [((q 0), .inr (8, [.ref (q 16), .int (nI (n + 1)), .int 0, .int 0])), ((q 16), .inl (kB, 240, .inl (upd f (nI n).toNatClampNeg v_11)))] := hD
    refine lv_iinc (v := (-8)) (lv' := [(2, .int (-8)), (3, .int v_11), (0, .ref (q 0)), (1, .int p0)]) hx hb dX8_append_49 hl (k := 3) rfl (by decide) (by decide) rfl (fun ls hl => ?_)
    refine lv_goto (tgt := 3) hx hb dX8_append_52 (by decide) ?_
    exact kk _ _ _ _ ls (by rw [bz1 (show v_11 = uA p0 0 from e_11) c_z]) hP hD hS (lv_sub hl [2, 3, 0] rfl)
set_option maxHeartbeats 4000000 in
set_option maxRecDepth 100000 in
theorem f_X8_append (l : Launch) (dC : Nat → ClassId) (dI : Nat → Nat → Nat) (sz : Nat) (q : Nat → Nat) (kB : ClassId) (n : Nat) (f : Nat → Int32) (p0 : Int32) (hn : n < 190) : Met l yX8_append vs_f_X8_append ({ frames := 0, cells := 0, slots := 0, locals := 0 }) (va_Pc [.ref (q 0), .int p0] (cW dC dI [((q 0), .inr (8, [.ref (q 16), .int (nI n), .int 0, .int 0])), ((q 16), .inl (kB, 240, .inl f))] [(kB, .int)] sz)) (va_Qv (fun (_ : Unit) => True) (fun (_ : Unit) (t : State) => ∃ f2 : Nat → Int32, cB dC dI (va_A [((q 0), .inr (8, [.ref (q 16), .int (nI n), .int 0, .int 0])), ((q 16), .inl (kB, 240, .inl f))] sz) [((q 0), .inr (8, [.ref (q 16), .int (nI (n + cA p0)), .int 0, .int 0])), ((q 16), .inl (kB, 240, .inl f2))] [(kB, .int)] t) (va_A [((q 0), .inr (8, [.ref (q 16), .int (nI n), .int 0, .int 0])), ((q 16), .inl (kB, 240, .inl f))] sz)) 0 0 (va_A [((q 0), .inr (8, [.ref (q 16), .int (nI n), .int 0, .int 0])), ((q 16), .inl (kB, 240, .inl f))] sz) := by
  refine Met.ofW (cc := cX8_append) (maxL := 4) (ret := none) (by decide) rfl ?_
  intro p e s m args below meth c s₁ B hml hv
  obtain ⟨rfl, hsz, hP, hK, hD0, hG⟩ := hv
  have hx := B.exec
  have hb := B.bytes
  have hr := B.returns
  have hts := atoms_spec (ws := vs_f_X8_append) B.pre
  have hown : s.vm.findClass RX8 = some m.cls := findClass_of_methodNamed B.named
  have hlocks := B.notSynchronized
  have hiX8 : ∀ w ∈ u_ws RX8 TX8 4, w ∈ vs_f_X8_append := vs_f_X8_append_uX8
  subst hsz
  have hD := hD0.self (sz := s.heap.size)
  generalize hAe : va_A [((q 0), .inr (8, [.ref (q 16), .int (nI n), .int 0, .int 0])), ((q 16), .inl (kB, 240, .inl f))] s.heap.size = A at hD ⊢
  have hA : ∀ q : Nat, s.heap.size ≤ q → A q := fun q h => by rw [← hAe]; exact Or.inr h
  have hS : va_S A s.heap s.heap [] := va_S.rf
  have hP : va_P (dC, dI) vwCl [((q 0), .inr (8, [.ref (q 16), .int (nI n), .int 0, .int 0])), ((q 16), .inl (kB, 240, .inl f))] s.heap := hP
  have hl := lv_entry ([.ref (q 0), .int p0]) (n := 4) (Nat.le_of_ble_eq_true rfl)
  rw [lg_entry_eq]
  generalize (lg_sl ([.ref (q 0), .int p0]) ++ List.replicate (4 - (lg_sl ([.ref (q 0), .int p0])).length) Slot.unset).toArray = ls at hl ⊢
  have hl : lv_has ls 4 [(0, .ref (q 0)), (1, .int p0)] := hl
  refine lv_bipush (v := 24) hx hb dX8_append_0 (by decide) ?_
  refine lv_istore_n (lv' := [(2, .int 24), (0, .ref (q 0)), (1, .int p0)]) hx hb dX8_append_2 rfl hl (by decide) rfl (fun ls hl => ?_)
  refine f_X8_append_24 q kB n (by omega) f p0 hx hb hts hown hG hK hP hD hS (lv_sub hl [1, 2, 0] rfl) (fun H locs n_0 f_0 ls en_0 hP hD hS hl => ?_)
  have hl := hl
  refine f_X8_append_16 q kB n_0 (by have := bz_le p0 24; omega) f_0 p0 hx hb hts hown hG hK hP hD hS (lv_sub hl [0, 1, 2] rfl) (fun H locs n_1 f_1 ls en_1 hP hD hS hl => ?_)
  have hl := hl
  refine f_X8_append_8 q kB n_1 (by have := bz_le p0 24; have := bz_le p0 16; omega) f_1 p0 hx hb hts hown hG hK hP hD hS (lv_sub hl [0, 1, 2] rfl) (fun H locs n_2 f_2 ls en_2 hP hD hS hl => ?_)
  have hl := hl
  refine f_X8_append_0 q kB n_2 (by have := bz_le p0 24; have := bz_le p0 16; have := bz_le p0 8; omega) f_2 p0 hx hb hts hown hG hK hP hD hS (lv_sub hl [0, 1, 2] rfl) (fun H locs n_3 f_3 ls en_3 hP hD hS hl => ?_)
  obtain rfl : n_3 = n + cA p0 := by unfold cA; omega
  refine lv_iload_n hx hb dX8_append_3 rfl (lv_at hl 2 rfl) ?_
  refine lv_if_lt (tgt := 55) hx hb dX8_append_4 (by decide) (fun c_13 => ?_) (fun c_13 => absurd (by decide) c_13)
  have hP9 := hP.sub (ws' := [((q 0), .inr (8, [.ref (q 16), .int (nI (n + cA p0)), .int 0, .int 0])), ((q 16), .inl (kB, 240, .inl f_3))]) [0, 1] rfl
  have hD9 := hD.sub (ws' := [((q 0), .inr (8, [.ref (q 16), .int (nI (n + cA p0)), .int 0, .int 0])), ((q 16), .inl (kB, 240, .inl f_3))]) [0, 1] (by decide) rfl
  have hK9 := hK.sub (tys' := [(kB, .int)]) [0] rfl
  exact W.vret hx hb hr (fun t ht hW => ⟨⟨(), rfl, trivial, ⟨f_3, by rw [ht]; exact hP9, va_K.moved hW.alike hK9, hD9⟩⟩, hS.F ht⟩) hS.2.2 dX8_append_55
