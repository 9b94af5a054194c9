set_option maxRecDepth 20000 in
theorem dX12_put_3 : decode cX12_put 3 = .ok (.iload_n 2, 1) := by decide +kernel
set_option maxRecDepth 20000 in
theorem dX12_put_4 : decode cX12_put 4 = .ok (.ifCond .lt 45, 3) := by decide +kernel
set_option maxRecDepth 20000 in
theorem dX12_put_7 : decode cX12_put 7 = .ok (.iload_n 1, 1) := by decide +kernel
set_option maxRecDepth 20000 in
theorem dX12_put_8 : decode cX12_put 8 = .ok (.iload_n 2, 1) := by decide +kernel
set_option maxRecDepth 20000 in
theorem dX12_put_9 : decode cX12_put 9 = .ok (.ishr, 1) := by decide +kernel
set_option maxRecDepth 20000 in
theorem dX12_put_10 : decode cX12_put 10 = .ok (.sipush 255, 3) := by decide +kernel
set_option maxRecDepth 20000 in
theorem dX12_put_13 : decode cX12_put 13 = .ok (.iand, 1) := by decide +kernel
set_option maxRecDepth 20000 in
theorem dX12_put_14 : decode cX12_put 14 = .ok (.ifCond .ne 6, 3) := by decide +kernel
set_option maxRecDepth 20000 in
theorem dX12_put_20 : decode cX12_put 20 = .ok (.aload_n 0, 1) := by decide +kernel
set_option maxRecDepth 20000 in
theorem dX12_put_21 : decode cX12_put 21 = .ok (.getfield 9, 3) := by decide +kernel
set_option maxRecDepth 20000 in
theorem dX12_put_24 : decode cX12_put 24 = .ok (.aload_n 0, 1) := by decide +kernel
set_option maxRecDepth 20000 in
theorem dX12_put_25 : decode cX12_put 25 = .ok (.getfield 103, 3) := by decide +kernel
set_option maxRecDepth 20000 in
theorem dX12_put_28 : decode cX12_put 28 = .ok (.iload_n 1, 1) := by decide +kernel
set_option maxRecDepth 20000 in
theorem dX12_put_29 : decode cX12_put 29 = .ok (.iload_n 2, 1) := by decide +kernel
set_option maxRecDepth 20000 in
theorem dX12_put_30 : decode cX12_put 30 = .ok (.ishr, 1) := by decide +kernel
set_option maxRecDepth 20000 in
theorem dX12_put_31 : decode cX12_put 31 = .ok (.i2b, 1) := by decide +kernel
set_option maxRecDepth 20000 in
theorem dX12_put_32 : decode cX12_put 32 = .ok (.bastore, 1) := by decide +kernel
set_option maxRecDepth 20000 in
theorem dX12_put_33 : decode cX12_put 33 = .ok (.aload_n 0, 1) := by decide +kernel
set_option maxRecDepth 20000 in
theorem dX12_put_34 : decode cX12_put 34 = .ok (.dup, 1) := by decide +kernel
set_option maxRecDepth 20000 in
theorem dX12_put_35 : decode cX12_put 35 = .ok (.getfield 103, 3) := by decide +kernel
set_option maxRecDepth 20000 in
theorem dX12_put_38 : decode cX12_put 38 = .ok (.iconst 1, 1) := by decide +kernel
set_option maxRecDepth 20000 in
theorem dX12_put_39 : decode cX12_put 39 = .ok (.iadd, 1) := by decide +kernel
set_option maxRecDepth 20000 in
theorem dX12_put_40 : decode cX12_put 40 = .ok (.putfield 103, 3) := by decide +kernel
set_option maxRecDepth 20000 in
theorem dX12_put_43 : decode cX12_put 43 = .ok (.iinc 2 (-8), 3) := by decide +kernel
set_option maxRecDepth 20000 in
theorem dX12_put_46 : decode cX12_put 46 = .ok (.goto (-43), 3) := by decide +kernel
set_option maxRecDepth 20000 in
theorem dX12_put_17 : decode cX12_put 17 = .ok (.goto 26, 3) := by decide +kernel
set_option maxRecDepth 20000 in
theorem dX12_put_0 : decode cX12_put 0 = .ok (.bipush 24, 2) := by decide +kernel
set_option maxRecDepth 20000 in
theorem dX12_put_2 : decode cX12_put 2 = .ok (.istore_n 2, 1) := by decide +kernel
set_option maxRecDepth 20000 in
theorem dX12_put_49 : decode cX12_put 49 = .ok (.return_, 1) := by decide +kernel
def vs_f_X12_put : List Cond := .code yX12_put cX12_put 3 none :: ([.fieldLink RX12 9 "WallChapelsModel" "tape" "[B", .fieldLink RX12 103 "WallChapelsModel" "length" "I"] ++ (u_ws RX12 TX12 54))
theorem vs_f_X12_put_uX12 : ∀ w ∈ u_ws RX12 TX12 54, w ∈ vs_f_X12_put := fun _ h => List.mem_cons_of_mem _ (List.mem_append_right _ (h))
set_option maxHeartbeats 4000000 in
set_option maxRecDepth 100000 in
theorem f_X12_put_24 {p : Program} {l : Launch} {e : Env} {R : Room} {s : State} {m : MethodId} {args : Array Value} {below : List Frame} {meth : Method} {c : Code} {H0 H : Heap} {locs : List Loc} {cells slots : Nat} {Q : State → Prop} {dC : Nat → ClassId} {dI : Nat → Nat → Nat} {A : Nat → Prop} {ls : Array Slot} (r : Nat → Nat) (kT : ClassId) (n : Nat) (hn : n < 200) (f : Nat → Int32) (p0 : Int32) (hx : p.tables.exec = Jvm.exec) (hb : c.code = cX12_put) (hts : ∀ w ∈ vs_f_X12_put, w.before args s = true) (hown : s.vm.findClass RX12 = some m.cls) (hG : gxP s) (hK : va_K (dC, dI) vwCl [(kT, .byte)] s) (hP : va_P (dC, dI) vwCl [((r 100), .inr (12, mF r 0 (nI n) 0 0 0 0 0 0 0 0 0 0 0 (-1) 1)), ((r 1), .inl (kT, 240, .inl f))] H) (hD : va_D A [((r 100), .inr (12, mF r 0 (nI n) 0 0 0 0 0 0 0 0 0 0 0 (-1) 1)), ((r 1), .inl (kT, 240, .inl f))]) (hS : va_S A H0 H locs) (hl : lv_has ls 3 [(0, .ref (r 100)), (1, .int p0), (2, .int 24)])
    (kk : ∀ (H : Heap) (locs : List Loc) (n2 : Nat) (f2 : Nat → Int32) (ls : Array Slot), n2 = n + bz p0 24 → va_P (dC, dI) vwCl [((r 100), .inr (12, mF r 0 (nI n2) 0 0 0 0 0 0 0 0 0 0 0 (-1) 1)), ((r 1), .inl (kT, 240, .inl f2))] H → va_D A [((r 100), .inr (12, mF r 0 (nI n2) 0 0 0 0 0 0 0 0 0 0 0 (-1) 1)), ((r 1), .inl (kT, 240, .inl f2))] → va_S A H0 H locs → lv_has ls 3 [(0, .ref (r 100)), (1, .int p0), (2, .int 16)] → W p l e R s m args below meth c H locs cells slots Q (F0 m 3 ls [])) : W p l e R s m args below meth c H locs cells slots Q (F0 m 3 ls []) := by
  have hiX12 : ∀ w ∈ u_ws RX12 TX12 54, w ∈ vs_f_X12_put := vs_f_X12_put_uX12
  refine lv_iload_n hx hb dX12_put_3 rfl (lv_at hl 2 rfl) ?_
  refine lv_if_lt (tgt := 49) hx hb dX12_put_4 (by decide) (fun c_1 => absurd c_1 (by decide)) (fun c_1 => ?_)
  refine lv_iload_n hx hb dX12_put_7 rfl (lv_at hl 1 rfl) ?_
  refine lv_iload_n hx hb dX12_put_8 rfl (lv_at hl 2 rfl) ?_
  refine lv_ishr hx hb dX12_put_9 ?_
  refine lv_sipush (v := 255) hx hb dX12_put_10 (by decide) ?_
  refine lv_iand hx hb dX12_put_13 ?_
  refine lv_topi (fun v_2 e_2 => ?_)
  refine lv_if_ne (tgt := 20) hx hb dX12_put_14 (by decide) (fun c_z => ?_) (fun c_z => ?_)
  · refine lv_aload_n hx hb dX12_put_20 rfl (lv_at hl 0 rfl) ?_
    refine va_get (D := (dC, dI)) (ci := 12) (v := .ref (r 1)) (C := RX12) (T := TX12) (N := 54) hx hb hts hiX12 hown hK hP 0 rfl rfl 1 (by decide) (hts (.fieldLink RX12 9 "WallChapelsModel" "tape" "[B") (by decide +kernel)) (fun _ h9 => h9) rfl dX12_put_21 ?_
    refine lv_aload_n hx hb dX12_put_24 rfl (lv_at hl 0 rfl) ?_
    refine va_get (D := (dC, dI)) (ci := 12) (v := .int (nI n)) (C := RX12) (T := TX12) (N := 54) hx hb hts hiX12 hown hK hP 0 rfl rfl 6 (by decide) (hts (.fieldLink RX12 103 "WallChapelsModel" "length" "I") (by decide +kernel)) (fun _ h9 => h9) rfl dX12_put_25 ?_
    refine lv_iload_n hx hb dX12_put_28 rfl (lv_at hl 1 rfl) ?_
    refine lv_iload_n hx hb dX12_put_29 rfl (lv_at hl 2 rfl) ?_
    refine lv_ishr hx hb dX12_put_30 ?_
    refine lv_i2b (v := (p0 >>> ((24 : Int32) &&& 31)).toInt8.toInt32) hx hb dX12_put_31 rfl ?_
    refine va_bast (D := (dC, dI)) hx hb hK hP hD hS 1 0 rfl rfl (i := nI n) (vp_in_nI (by omega) (by decide)) dX12_put_32 (fun H locs hP hD hS => ?_)
    have hP : va_P (dC, dI) vwCl [((r 100), .inr (12, mF r 0 (nI n) 0 0 0 0 0 0 0 0 0 0 0 (-1) 1)), ((r 1), .inl (kT, 240, .inl (upd f (nI n).toNatClampNeg (vp_nar .byte ((p0 >>> ((24 : Int32) &&& 31)).toInt8.toInt32)))))] H := hP
    have hD : va_D A [((r 100), .inr (12, mF r 0 (nI n) 0 0 0 0 0 0 0 0 0 0 0 (-1) 1)), ((r 1), .inl (kT, 240, .inl (upd f (nI n).toNatClampNeg (vp_nar .byte ((p0 >>> ((24 : Int32) &&& 31)).toInt8.toInt32)))))] := hD
    refine lv_aload_n hx hb dX12_put_33 rfl (lv_at hl 0 rfl) ?_
    refine lv_dup hx hb dX12_put_34 rfl ?_
    refine va_get (D := (dC, dI)) (ci := 12) (v := .int (nI n)) (C := RX12) (T := TX12) (N := 54) hx hb hts hiX12 hown hK hP 0 rfl rfl 6 (by decide) (hts (.fieldLink RX12 103 "WallChapelsModel" "length" "I") (by decide +kernel)) (fun _ h9 => h9) rfl dX12_put_35 ?_
    refine lv_iconst (v := 1) hx hb dX12_put_38 (by decide) ?_
    refine lv_iadd hx hb dX12_put_39 ?_
    refine lv_topi (fun v_3 e_3 => ?_)
    obtain rfl : v_3 = nI (n + 1) := by rw [e_3]; exact nI_add n 1
    refine va_put (D := (dC, dI)) (ci := 12) (v := .int (nI (n + 1))) (ty := .int) (C := RX12) (T := TX12) (N := 54) hx hb hts hiX12 tyX12 tyX12_ok nmX12 hown hK hP hD hS 0 rfl rfl 6 (by decide) (hts (.fieldLink RX12 103 "WallChapelsModel" "length" "I") (by decide +kernel)) (fun _ h9 => h9) rfl (by decide +kernel) rfl rfl (Nat.le_of_ble_eq_true rfl) dX12_put_40 (fun H locs hP hD hS => ?_)
    have hP : va_P (dC, dI) vwCl [((r 100), .inr (12, mF r 0 (nI (n + 1)) 0 0 0 0 0 0 0 0 0 0 0 (-1) 1)), ((r 1), .inl (kT, 240, .inl (upd f (nI n).toNatClampNeg (vp_nar .byte ((p0 >>> ((24 : Int32) &&& 31)).toInt8.toInt32)))))] H := hP
    have hD : va_D A [((r 100), .inr (12, mF r 0 (nI (n + 1)) 0 0 0 0 0 0 0 0 0 0 0 (-1) 1)), ((r 1), .inl (kT, 240, .inl (upd f (nI n).toNatClampNeg (vp_nar .byte ((p0 >>> ((24 : Int32) &&& 31)).toInt8.toInt32)))))] := hD
    refine lv_iinc (v := 16) (lv' := [(2, .int 16), (0, .ref (r 100)), (1, .int p0)]) hx hb dX12_put_43 hl (k := 2) rfl (by decide) (by decide) rfl (fun ls hl => ?_)
    refine lv_goto (tgt := 3) hx hb dX12_put_46 (by decide) ?_
    exact kk _ _ _ _ ls (by rw [bz1 (show v_2 = uA p0 24 from sA_u 24 rfl (by decide) e_2) c_z]) hP hD hS (lv_sub hl [1, 2, 0] rfl)
  · refine lv_goto (tgt := 43) hx hb dX12_put_17 (by decide) ?_
    refine lv_iinc (v := 16) (lv' := [(2, .int 16), (0, .ref (r 100)), (1, .int p0)]) hx hb dX12_put_43 hl (k := 2) rfl (by decide) (by decide) rfl (fun ls hl => ?_)
    refine lv_goto (tgt := 3) hx hb dX12_put_46 (by decide) ?_
    exact kk _ _ _ _ ls (by rw [bz0 (show v_2 = uA p0 24 from sA_u 24 rfl (by decide) e_2) c_z]; rfl) hP hD hS (lv_sub hl [1, 2, 0] rfl)
set_option maxHeartbeats 4000000 in
set_option maxRecDepth 100000 in
theorem f_X12_put_16 {p : Program} {l : Launch} {e : Env} {R : Room} {s : State} {m : MethodId} {args : Array Value} {below : List Frame} {meth : Method} {c : Code} {H0 H : Heap} {locs : List Loc} {cells slots : Nat} {Q : State → Prop} {dC : Nat → ClassId} {dI : Nat → Nat → Nat} {A : Nat → Prop} {ls : Array Slot} (r : Nat → Nat) (kT : ClassId) (n : Nat) (hn : n < 200) (f : Nat → Int32) (p0 : Int32) (hx : p.tables.exec = Jvm.exec) (hb : c.code = cX12_put) (hts : ∀ w ∈ vs_f_X12_put, w.before args s = true) (hown : s.vm.findClass RX12 = some m.cls) (hG : gxP s) (hK : va_K (dC, dI) vwCl [(kT, .byte)] s) (hP : va_P (dC, dI) vwCl [((r 100), .inr (12, mF r 0 (nI n) 0 0 0 0 0 0 0 0 0 0 0 (-1) 1)), ((r 1), .inl (kT, 240, .inl f))] H) (hD : va_D A [((r 100), .inr (12, mF r 0 (nI n) 0 0 0 0 0 0 0 0 0 0 0 (-1) 1)), ((r 1), .inl (kT, 240, .inl f))]) (hS : va_S A H0 H locs) (hl : lv_has ls 3 [(0, .ref (r 100)), (1, .int p0), (2, .int 16)])
    (kk : ∀ (H : Heap) (locs : List Loc) (n2 : Nat) (f2 : Nat → Int32) (ls : Array Slot), n2 = n + bz p0 16 → va_P (dC, dI) vwCl [((r 100), .inr (12, mF r 0 (nI n2) 0 0 0 0 0 0 0 0 0 0 0 (-1) 1)), ((r 1), .inl (kT, 240, .inl f2))] H → va_D A [((r 100), .inr (12, mF r 0 (nI n2) 0 0 0 0 0 0 0 0 0 0 0 (-1) 1)), ((r 1), .inl (kT, 240, .inl f2))] → va_S A H0 H locs → lv_has ls 3 [(0, .ref (r 100)), (1, .int p0), (2, .int 8)] → W p l e R s m args below meth c H locs cells slots Q (F0 m 3 ls [])) : W p l e R s m args below meth c H locs cells slots Q (F0 m 3 ls []) := by
  have hiX12 : ∀ w ∈ u_ws RX12 TX12 54, w ∈ vs_f_X12_put := vs_f_X12_put_uX12
  refine lv_iload_n hx hb dX12_put_3 rfl (lv_at hl 2 rfl) ?_
  refine lv_if_lt (tgt := 49) hx hb dX12_put_4 (by decide) (fun c_4 => absurd c_4 (by decide)) (fun c_4 => ?_)
  refine lv_iload_n hx hb dX12_put_7 rfl (lv_at hl 1 rfl) ?_
  refine lv_iload_n hx hb dX12_put_8 rfl (lv_at hl 2 rfl) ?_
  refine lv_ishr hx hb dX12_put_9 ?_
  refine lv_sipush (v := 255) hx hb dX12_put_10 (by decide) ?_
  refine lv_iand hx hb dX12_put_13 ?_
  refine lv_topi (fun v_5 e_5 => ?_)
  refine lv_if_ne (tgt := 20) hx hb dX12_put_14 (by decide) (fun c_z => ?_) (fun c_z => ?_)
  · refine lv_aload_n hx hb dX12_put_20 rfl (lv_at hl 0 rfl) ?_
    refine va_get (D := (dC, dI)) (ci := 12) (v := .ref (r 1)) (C := RX12) (T := TX12) (N := 54) hx hb hts hiX12 hown hK hP 0 rfl rfl 1 (by decide) (hts (.fieldLink RX12 9 "WallChapelsModel" "tape" "[B") (by decide +kernel)) (fun _ h9 => h9) rfl dX12_put_21 ?_
    refine lv_aload_n hx hb dX12_put_24 rfl (lv_at hl 0 rfl) ?_
    refine va_get (D := (dC, dI)) (ci := 12) (v := .int (nI n)) (C := RX12) (T := TX12) (N := 54) hx hb hts hiX12 hown hK hP 0 rfl rfl 6 (by decide) (hts (.fieldLink RX12 103 "WallChapelsModel" "length" "I") (by decide +kernel)) (fun _ h9 => h9) rfl dX12_put_25 ?_
    refine lv_iload_n hx hb dX12_put_28 rfl (lv_at hl 1 rfl) ?_
    refine lv_iload_n hx hb dX12_put_29 rfl (lv_at hl 2 rfl) ?_
    refine lv_ishr hx hb dX12_put_30 ?_
    refine lv_i2b (v := (p0 >>> ((16 : Int32) &&& 31)).toInt8.toInt32) hx hb dX12_put_31 rfl ?_
    refine va_bast (D := (dC, dI)) hx hb hK hP hD hS 1 0 rfl rfl (i := nI n) (vp_in_nI (by omega) (by decide)) dX12_put_32 (fun H locs hP hD hS => ?_)
    have hP : va_P (dC, dI) vwCl [((r 100), .inr (12, mF r 0 (nI n) 0 0 0 0 0 0 0 0 0 0 0 (-1) 1)), ((r 1), .inl (kT, 240, .inl (upd f (nI n).toNatClampNeg (vp_nar .byte ((p0 >>> ((16 : Int32) &&& 31)).toInt8.toInt32)))))] H := hP
    have hD : va_D A [((r 100), .inr (12, mF r 0 (nI n) 0 0 0 0 0 0 0 0 0 0 0 (-1) 1)), ((r 1), .inl (kT, 240, .inl (upd f (nI n).toNatClampNeg (vp_nar .byte ((p0 >>> ((16 : Int32) &&& 31)).toInt8.toInt32)))))] := hD
    refine lv_aload_n hx hb dX12_put_33 rfl (lv_at hl 0 rfl) ?_
    refine lv_dup hx hb dX12_put_34 rfl ?_
    refine va_get (D := (dC, dI)) (ci := 12) (v := .int (nI n)) (C := RX12) (T := TX12) (N := 54) hx hb hts hiX12 hown hK hP 0 rfl rfl 6 (by decide) (hts (.fieldLink RX12 103 "WallChapelsModel" "length" "I") (by decide +kernel)) (fun _ h9 => h9) rfl dX12_put_35 ?_
    refine lv_iconst (v := 1) hx hb dX12_put_38 (by decide) ?_
    refine lv_iadd hx hb dX12_put_39 ?_
    refine lv_topi (fun v_6 e_6 => ?_)
    obtain rfl : v_6 = nI (n + 1) := by rw [e_6]; exact nI_add n 1
    refine va_put (D := (dC, dI)) (ci := 12) (v := .int (nI (n + 1))) (ty := .int) (C := RX12) (T := TX12) (N := 54) hx hb hts hiX12 tyX12 tyX12_ok nmX12 hown hK hP hD hS 0 rfl rfl 6 (by decide) (hts (.fieldLink RX12 103 "WallChapelsModel" "length" "I") (by decide +kernel)) (fun _ h9 => h9) rfl (by decide +kernel) rfl rfl (Nat.le_of_ble_eq_true rfl) dX12_put_40 (fun H locs hP hD hS => ?_)
    have hP : va_P (dC, dI) vwCl [((r 100), .inr (12, mF r 0 (nI (n + 1)) 0 0 0 0 0 0 0 0 0 0 0 (-1) 1)), ((r 1), .inl (kT, 240, .inl (upd f (nI n).toNatClampNeg (vp_nar .byte ((p0 >>> ((16 : Int32) &&& 31)).toInt8.toInt32)))))] H := hP
    have hD : va_D A [((r 100), .inr (12, mF r 0 (nI (n + 1)) 0 0 0 0 0 0 0 0 0 0 0 (-1) 1)), ((r 1), .inl (kT, 240, .inl (upd f (nI n).toNatClampNeg (vp_nar .byte ((p0 >>> ((16 : Int32) &&& 31)).toInt8.toInt32)))))] := hD
    refine lv_iinc (v := 8) (lv' := [(2, .int 8), (0, .ref (r 100)), (1, .int p0)]) hx hb dX12_put_43 hl (k := 2) rfl (by decide) (by decide) rfl (fun ls hl => ?_)
    refine lv_goto (tgt := 3) hx hb dX12_put_46 (by decide) ?_
    exact kk _ _ _ _ ls (by rw [bz1 (show v_5 = uA p0 16 from sA_u 16 rfl (by decide) e_5) c_z]) hP hD hS (lv_sub hl [1, 2, 0] rfl)
  · refine lv_goto (tgt := 43) hx hb dX12_put_17 (by decide) ?_
    refine lv_iinc (v := 8) (lv' := [(2, .int 8), (0, .ref (r 100)), (1, .int p0)]) hx hb dX12_put_43 hl (k := 2) rfl (by decide) (by decide) rfl (fun ls hl => ?_)
    refine lv_goto (tgt := 3) hx hb dX12_put_46 (by decide) ?_
    exact kk _ _ _ _ ls (by rw [bz0 (show v_5 = uA p0 16 from sA_u 16 rfl (by decide) e_5) c_z]; rfl) hP hD hS (lv_sub hl [1, 2, 0] rfl)
set_option maxHeartbeats 4000000 in
set_option maxRecDepth 100000 in
theorem f_X12_put_8 {p : Program} {l : Launch} {e : Env} {R : Room} {s : State} {m : MethodId} {args : Array Value} {below : List Frame} {meth : Method} {c : Code} {H0 H : Heap} {locs : List Loc} {cells slots : Nat} {Q : State → Prop} {dC : Nat → ClassId} {dI : Nat → Nat → Nat} {A : Nat → Prop} {ls : Array Slot} (r : Nat → Nat) (kT : ClassId) (n : Nat) (hn : n < 200) (f : Nat → Int32) (p0 : Int32) (hx : p.tables.exec = Jvm.exec) (hb : c.code = cX12_put) (hts : ∀ w ∈ vs_f_X12_put, w.before args s = true) (hown : s.vm.findClass RX12 = some m.cls) (hG : gxP s) (hK : va_K (dC, dI) vwCl [(kT, .byte)] s) (hP : va_P (dC, dI) vwCl [((r 100), .inr (12, mF r 0 (nI n) 0 0 0 0 0 0 0 0 0 0 0 (-1) 1)), ((r 1), .inl (kT, 240, .inl f))] H) (hD : va_D A [((r 100), .inr (12, mF r 0 (nI n) 0 0 0 0 0 0 0 0 0 0 0 (-1) 1)), ((r 1), .inl (kT, 240, .inl f))]) (hS : va_S A H0 H locs) (hl : lv_has ls 3 [(0, .ref (r 100)), (1, .int p0), (2, .int 8)])
    (kk : ∀ (H : Heap) (locs : List Loc) (n2 : Nat) (f2 : Nat → Int32) (ls : Array Slot), n2 = n + bz p0 8 → va_P (dC, dI) vwCl [((r 100), .inr (12, mF r 0 (nI n2) 0 0 0 0 0 0 0 0 0 0 0 (-1) 1)), ((r 1), .inl (kT, 240, .inl f2))] H → va_D A [((r 100), .inr (12, mF r 0 (nI n2) 0 0 0 0 0 0 0 0 0 0 0 (-1) 1)), ((r 1), .inl (kT, 240, .inl f2))] → va_S A H0 H locs → lv_has ls 3 [(0, .ref (r 100)), (1, .int p0), (2, .int 0)] → W p l e R s m args below meth c H locs cells slots Q (F0 m 3 ls [])) : W p l e R s m args below meth c H locs cells slots Q (F0 m 3 ls []) := by
  have hiX12 : ∀ w ∈ u_ws RX12 TX12 54, w ∈ vs_f_X12_put := vs_f_X12_put_uX12
  refine lv_iload_n hx hb dX12_put_3 rfl (lv_at hl 2 rfl) ?_
  refine lv_if_lt (tgt := 49) hx hb dX12_put_4 (by decide) (fun c_7 => absurd c_7 (by decide)) (fun c_7 => ?_)
  refine lv_iload_n hx hb dX12_put_7 rfl (lv_at hl 1 rfl) ?_
  refine lv_iload_n hx hb dX12_put_8 rfl (lv_at hl 2 rfl) ?_
  refine lv_ishr hx hb dX12_put_9 ?_
  refine lv_sipush (v := 255) hx hb dX12_put_10 (by decide) ?_
  refine lv_iand hx hb dX12_put_13 ?_
  refine lv_topi (fun v_8 e_8 => ?_)
  refine lv_if_ne (tgt := 20) hx hb dX12_put_14 (by decide) (fun c_z => ?_) (fun c_z => ?_)
  · refine lv_aload_n hx hb dX12_put_20 rfl (lv_at hl 0 rfl) ?_
    refine va_get (D := (dC, dI)) (ci := 12) (v := .ref (r 1)) (C := RX12) (T := TX12) (N := 54) hx hb hts hiX12 hown hK hP 0 rfl rfl 1 (by decide) (hts (.fieldLink RX12 9 "WallChapelsModel" "tape" "[B") (by decide +kernel)) (fun _ h9 => h9) rfl dX12_put_21 ?_
    refine lv_aload_n hx hb dX12_put_24 rfl (lv_at hl 0 rfl) ?_
    refine va_get (D := (dC, dI)) (ci := 12) (v := .int (nI n)) (C := RX12) (T := TX12) (N := 54) hx hb hts hiX12 hown hK hP 0 rfl rfl 6 (by decide) (hts (.fieldLink RX12 103 "WallChapelsModel" "length" "I") (by decide +kernel)) (fun _ h9 => h9) rfl dX12_put_25 ?_
    refine lv_iload_n hx hb dX12_put_28 rfl (lv_at hl 1 rfl) ?_
    refine lv_iload_n hx hb dX12_put_29 rfl (lv_at hl 2 rfl) ?_
    refine lv_ishr hx hb dX12_put_30 ?_
    refine lv_i2b (v := (p0 >>> ((8 : Int32) &&& 31)).toInt8.toInt32) hx hb dX12_put_31 rfl ?_
    refine va_bast (D := (dC, dI)) hx hb hK hP hD hS 1 0 rfl rfl (i := nI n) (vp_in_nI (by omega) (by decide)) dX12_put_32 (fun H locs hP hD hS => ?_)
    have hP : va_P (dC, dI) vwCl [((r 100), .inr (12, mF r 0 (nI n) 0 0 0 0 0 0 0 0 0 0 0 (-1) 1)), ((r 1), .inl (kT, 240, .inl (upd f (nI n).toNatClampNeg (vp_nar .byte ((p0 >>> ((8 : Int32) &&& 31)).toInt8.toInt32)))))] H := hP
    have hD : va_D A [((r 100), .inr (12, mF r 0 (nI n) 0 0 0 0 0 0 0 0 0 0 0 (-1) 1)), ((r 1), .inl (kT, 240, .inl (upd f (nI n).toNatClampNeg (vp_nar .byte ((p0 >>> ((8 : Int32) &&& 31)).toInt8.toInt32)))))] := hD
    refine lv_aload_n hx hb dX12_put_33 rfl (lv_at hl 0 rfl) ?_
    refine lv_dup hx hb dX12_put_34 rfl ?_
    refine va_get (D := (dC, dI)) (ci := 12) (v := .int (nI n)) (C := RX12) (T := TX12) (N := 54) hx hb hts hiX12 hown hK hP 0 rfl rfl 6 (by decide) (hts (.fieldLink RX12 103 "WallChapelsModel" "length" "I") (by decide +kernel)) (fun _ h9 => h9) rfl dX12_put_35 ?_
    refine lv_iconst (v := 1) hx hb dX12_put_38 (by decide) ?_
    refine lv_iadd hx hb dX12_put_39 ?_
    refine lv_topi (fun v_9 e_9 => ?_)
    obtain rfl : v_9 = nI (n + 1) := by rw [e_9]; exact nI_add n 1
    refine va_put (D := (dC, dI)) (ci := 12) (v := .int (nI (n + 1))) (ty := .int) (C := RX12) (T := TX12) (N := 54) hx hb hts hiX12 tyX12 tyX12_ok nmX12 hown hK hP hD hS 0 rfl rfl 6 (by decide) (hts (.fieldLink RX12 103 "WallChapelsModel" "length" "I") (by decide +kernel)) (fun _ h9 => h9) rfl (by decide +kernel) rfl rfl (Nat.le_of_ble_eq_true rfl) dX12_put_40 (fun H locs hP hD hS => ?_)
    have hP : va_P (dC, dI) vwCl [((r 100), .inr (12, mF r 0 (nI (n + 1)) 0 0 0 0 0 0 0 0 0 0 0 (-1) 1)), ((r 1), .inl (kT, 240, .inl (upd f (nI n).toNatClampNeg (vp_nar .byte ((p0 >>> ((8 : Int32) &&& 31)).toInt8.toInt32)))))] H := hP
    have hD : va_D A [((r 100), .inr (12, mF r 0 (nI (n + 1)) 0 0 0 0 0 0 0 0 0 0 0 (-1) 1)), ((r 1), .inl (kT, 240, .inl (upd f (nI n).toNatClampNeg (vp_nar .byte ((p0 >>> ((8 : Int32) &&& 31)).toInt8.toInt32)))))] := hD
    refine lv_iinc (v := 0) (lv' := [(2, .int 0), (0, .ref (r 100)), (1, .int p0)]) hx hb dX12_put_43 hl (k := 2) rfl (by decide) (by decide) rfl (fun ls hl => ?_)
    refine lv_goto (tgt := 3) hx hb dX12_put_46 (by decide) ?_
    exact kk _ _ _ _ ls (by rw [bz1 (show v_8 = uA p0 8 from sA_u 8 rfl (by decide) e_8) c_z]) hP hD hS (lv_sub hl [1, 2, 0] rfl)
  · refine lv_goto (tgt := 43) hx hb dX12_put_17 (by decide) ?_
    refine lv_iinc (v := 0) (lv' := [(2, .int 0), (0, .ref (r 100)), (1, .int p0)]) hx hb dX12_put_43 hl (k := 2) rfl (by decide) (by decide) rfl (fun ls hl => ?_)
    refine lv_goto (tgt := 3) hx hb dX12_put_46 (by decide) ?_
    exact kk _ _ _ _ ls (by rw [bz0 (show v_8 = uA p0 8 from sA_u 8 rfl (by decide) e_8) c_z]; rfl) hP hD hS (lv_sub hl [1, 2, 0] rfl)
set_option maxHeartbeats 4000000 in
set_option maxRecDepth 100000 in
theorem f_X12_put_0 {p : Program} {l : Launch} {e : Env} {R : Room} {s : State} {m : MethodId} {args : Array Value} {below : List Frame} {meth : Method} {c : Code} {H0 H : Heap} {locs : List Loc} {cells slots : Nat} {Q : State → Prop} {dC : Nat → ClassId} {dI : Nat → Nat → Nat} {A : Nat → Prop} {ls : Array Slot} (r : Nat → Nat) (kT : ClassId) (n : Nat) (hn : n < 200) (f : Nat → Int32) (p0 : Int32) (hx : p.tables.exec = Jvm.exec) (hb : c.code = cX12_put) (hts : ∀ w ∈ vs_f_X12_put, w.before args s = true) (hown : s.vm.findClass RX12 = some m.cls) (hG : gxP s) (hK : va_K (dC, dI) vwCl [(kT, .byte)] s) (hP : va_P (dC, dI) vwCl [((r 100), .inr (12, mF r 0 (nI n) 0 0 0 0 0 0 0 0 0 0 0 (-1) 1)), ((r 1), .inl (kT, 240, .inl f))] H) (hD : va_D A [((r 100), .inr (12, mF r 0 (nI n) 0 0 0 0 0 0 0 0 0 0 0 (-1) 1)), ((r 1), .inl (kT, 240, .inl f))]) (hS : va_S A H0 H locs) (hl : lv_has ls 3 [(0, .ref (r 100)), (1, .int p0), (2, .int 0)])
    (kk : ∀ (H : Heap) (locs : List Loc) (n2 : Nat) (f2 : Nat → Int32) (ls : Array Slot), n2 = n + bz p0 0 → va_P (dC, dI) vwCl [((r 100), .inr (12, mF r 0 (nI n2) 0 0 0 0 0 0 0 0 0 0 0 (-1) 1)), ((r 1), .inl (kT, 240, .inl f2))] H → va_D A [((r 100), .inr (12, mF r 0 (nI n2) 0 0 0 0 0 0 0 0 0 0 0 (-1) 1)), ((r 1), .inl (kT, 240, .inl f2))] → va_S A H0 H locs → lv_has ls 3 [(0, .ref (r 100)), (1, .int p0), (2, .int (-8))] → W p l e R s m args below meth c H locs cells slots Q (F0 m 3 ls [])) : W p l e R s m args below meth c H locs cells slots Q (F0 m 3 ls []) := by
  have hiX12 : ∀ w ∈ u_ws RX12 TX12 54, w ∈ vs_f_X12_put := vs_f_X12_put_uX12
  refine lv_iload_n hx hb dX12_put_3 rfl (lv_at hl 2 rfl) ?_
  refine lv_if_lt (tgt := 49) hx hb dX12_put_4 (by decide) (fun c_10 => absurd c_10 (by decide)) (fun c_10 => ?_)
  refine lv_iload_n hx hb dX12_put_7 rfl (lv_at hl 1 rfl) ?_
  refine lv_iload_n hx hb dX12_put_8 rfl (lv_at hl 2 rfl) ?_
  refine lv_ishr hx hb dX12_put_9 ?_
  refine lv_sipush (v := 255) hx hb dX12_put_10 (by decide) ?_
  refine lv_iand hx hb dX12_put_13 ?_
  refine lv_topi (fun v_11 e_11 => ?_)
  refine lv_if_ne (tgt := 20) hx hb dX12_put_14 (by decide) (fun c_z => ?_) (fun c_z => ?_)
  · refine lv_aload_n hx hb dX12_put_20 rfl (lv_at hl 0 rfl) ?_
    refine va_get (D := (dC, dI)) (ci := 12) (v := .ref (r 1)) (C := RX12) (T := TX12) (N := 54) hx hb hts hiX12 hown hK hP 0 rfl rfl 1 (by decide) (hts (.fieldLink RX12 9 "WallChapelsModel" "tape" "[B") (by decide +kernel)) (fun _ h9 => h9) rfl dX12_put_21 ?_
    refine lv_aload_n hx hb dX12_put_24 rfl (lv_at hl 0 rfl) ?_
    refine va_get (D := (dC, dI)) (ci := 12) (v := .int (nI n)) (C := RX12) (T := TX12) (N := 54) hx hb hts hiX12 hown hK hP 0 rfl rfl 6 (by decide) (hts (.fieldLink RX12 103 "WallChapelsModel" "length" "I") (by decide +kernel)) (fun _ h9 => h9) rfl dX12_put_25 ?_
    refine lv_iload_n hx hb dX12_put_28 rfl (lv_at hl 1 rfl) ?_
    refine lv_iload_n hx hb dX12_put_29 rfl (lv_at hl 2 rfl) ?_
    refine lv_ishr hx hb dX12_put_30 ?_
    refine lv_i2b (v := (p0 >>> ((0 : Int32) &&& 31)).toInt8.toInt32) hx hb dX12_put_31 rfl ?_
    refine va_bast (D := (dC, dI)) hx hb hK hP hD hS 1 0 rfl rfl (i := nI n) (vp_in_nI (by omega) (by decide)) dX12_put_32 (fun H locs hP hD hS => ?_)
    have hP : va_P (dC, dI) vwCl [((r 100), .inr (12, mF r 0 (nI n) 0 0 0 0 0 0 0 0 0 0 0 (-1) 1)), ((r 1), .inl (kT, 240, .inl (upd f (nI n).toNatClampNeg (vp_nar .byte ((p0 >>> ((0 : Int32) &&& 31)).toInt8.toInt32)))))] H := hP
    have hD : va_D A [((r 100), .inr (12, mF r 0 (nI n) 0 0 0 0 0 0 0 0 0 0 0 (-1) 1)), ((r 1), .inl (kT, 240, .inl (upd f (nI n).toNatClampNeg (vp_nar .byte ((p0 >>> ((0 : Int32) &&& 31)).toInt8.toInt32)))))] := hD
    refine lv_aload_n hx hb dX12_put_33 rfl (lv_at hl 0 rfl) ?_
    refine lv_dup hx hb dX12_put_34 rfl ?_
    refine va_get (D := (dC, dI)) (ci := 12) (v := .int (nI n)) (C := RX12) (T := TX12) (N := 54) hx hb hts hiX12 hown hK hP 0 rfl rfl 6 (by decide) (hts (.fieldLink RX12 103 "WallChapelsModel" "length" "I") (by decide +kernel)) (fun _ h9 => h9) rfl dX12_put_35 ?_
    refine lv_iconst (v := 1) hx hb dX12_put_38 (by decide) ?_
    refine lv_iadd hx hb dX12_put_39 ?_
    refine lv_topi (fun v_12 e_12 => ?_)
    obtain rfl : v_12 = nI (n + 1) := by rw [e_12]; exact nI_add n 1
    refine va_put (D := (dC, dI)) (ci := 12) (v := .int (nI (n + 1))) (ty := .int) (C := RX12) (T := TX12) (N := 54) hx hb hts hiX12 tyX12 tyX12_ok nmX12 hown hK hP hD hS 0 rfl rfl 6 (by decide) (hts (.fieldLink RX12 103 "WallChapelsModel" "length" "I") (by decide +kernel)) (fun _ h9 => h9) rfl (by decide +kernel) rfl rfl (Nat.le_of_ble_eq_true rfl) dX12_put_40 (fun H locs hP hD hS => ?_)
    have hP : va_P (dC, dI) vwCl [((r 100), .inr (12, mF r 0 (nI (n + 1)) 0 0 0 0 0 0 0 0 0 0 0 (-1) 1)), ((r 1), .inl (kT, 240, .inl (upd f (nI n).toNatClampNeg (vp_nar .byte ((p0 >>> ((0 : Int32) &&& 31)).toInt8.toInt32)))))] H := hP
    have hD : va_D A [((r 100), .inr (12, mF r 0 (nI (n + 1)) 0 0 0 0 0 0 0 0 0 0 0 (-1) 1)), ((r 1), .inl (kT, 240, .inl (upd f (nI n).toNatClampNeg (vp_nar .byte ((p0 >>> ((0 : Int32) &&& 31)).toInt8.toInt32)))))] := hD
    refine lv_iinc (v := (-8)) (lv' := [(2, .int (-8)), (0, .ref (r 100)), (1, .int p0)]) hx hb dX12_put_43 hl (k := 2) rfl (by decide) (by decide) rfl (fun ls hl => ?_)
    refine lv_goto (tgt := 3) hx hb dX12_put_46 (by decide) ?_
    exact kk _ _ _ _ ls (by rw [bz1 (show v_11 = uA p0 0 from sA_u 0 rfl (by decide) e_11) c_z]) hP hD hS (lv_sub hl [1, 2, 0] rfl)
  · refine lv_goto (tgt := 43) hx hb dX12_put_17 (by decide) ?_
    refine lv_iinc (v := (-8)) (lv' := [(2, .int (-8)), (0, .ref (r 100)), (1, .int p0)]) hx hb dX12_put_43 hl (k := 2) rfl (by decide) (by decide) rfl (fun ls hl => ?_)
    refine lv_goto (tgt := 3) hx hb dX12_put_46 (by decide) ?_
    exact kk _ _ _ _ ls (by rw [bz0 (show v_11 = uA p0 0 from sA_u 0 rfl (by decide) e_11) c_z]; rfl) hP hD hS (lv_sub hl [1, 2, 0] rfl)
set_option maxHeartbeats 4000000 in
set_option maxRecDepth 100000 in
theorem f_X12_put (l : Launch) (dC : Nat → ClassId) (dI : Nat → Nat → Nat) (sz : Nat) (r : Nat → Nat) (kT : ClassId) (n : Nat) (f : Nat → Int32) (p0 : Int32) (hn : n < 190) : Met l yX12_put vs_f_X12_put ({ frames := 0, cells := 0, slots := 0, locals := 0 }) (va_Pc [.ref (r 100), .int p0] (cW dC dI [((r 100), .inr (12, mF r 0 (nI n) 0 0 0 0 0 0 0 0 0 0 0 (-1) 1)), ((r 1), .inl (kT, 240, .inl f))] [(kT, .byte)] sz)) (va_Qv (fun (_ : Unit) => True) (fun (_ : Unit) (t : State) => ∃ f2 : Nat → Int32, cB dC dI (va_A [((r 100), .inr (12, mF r 0 (nI n) 0 0 0 0 0 0 0 0 0 0 0 (-1) 1)), ((r 1), .inl (kT, 240, .inl f))] sz) [((r 100), .inr (12, mF r 0 (nI (n + cA p0)) 0 0 0 0 0 0 0 0 0 0 0 (-1) 1)), ((r 1), .inl (kT, 240, .inl f2))] [(kT, .byte)] t) (va_A [((r 100), .inr (12, mF r 0 (nI n) 0 0 0 0 0 0 0 0 0 0 0 (-1) 1)), ((r 1), .inl (kT, 240, .inl f))] sz)) 0 0 (va_A [((r 100), .inr (12, mF r 0 (nI n) 0 0 0 0 0 0 0 0 0 0 0 (-1) 1)), ((r 1), .inl (kT, 240, .inl f))] sz) := by
  refine Met.ofW (cc := cX12_put) (maxL := 3) (ret := none) (by decide) rfl ?_
  intro p e s m args below meth c s₁ B hml hv
  obtain ⟨rfl, hsz, hP, hK, hD0, hG⟩ := hv
  have hx := B.exec
  have hb := B.bytes
  have hr := B.returns
  have hts := atoms_spec (ws := vs_f_X12_put) B.pre
  have hown : s.vm.findClass RX12 = some m.cls := findClass_of_methodNamed B.named
  have hlocks := B.notSynchronized
  have hiX12 : ∀ w ∈ u_ws RX12 TX12 54, w ∈ vs_f_X12_put := vs_f_X12_put_uX12
  subst hsz
  have hD := hD0.self (sz := s.heap.size)
  generalize hAe : va_A [((r 100), .inr (12, mF r 0 (nI n) 0 0 0 0 0 0 0 0 0 0 0 (-1) 1)), ((r 1), .inl (kT, 240, .inl f))] s.heap.size = A at hD ⊢
  have hA : ∀ q : Nat, s.heap.size ≤ q → A q := fun q h => by rw [← hAe]; exact Or.inr h
  have hS : va_S A s.heap s.heap [] := va_S.rf
  have hP : va_P (dC, dI) vwCl [((r 100), .inr (12, mF r 0 (nI n) 0 0 0 0 0 0 0 0 0 0 0 (-1) 1)), ((r 1), .inl (kT, 240, .inl f))] s.heap := hP
  have hl := lv_entry ([.ref (r 100), .int p0]) (n := 3) (Nat.le_of_ble_eq_true rfl)
  rw [lg_entry_eq]
  generalize (lg_sl ([.ref (r 100), .int p0]) ++ List.replicate (3 - (lg_sl ([.ref (r 100), .int p0])).length) Slot.unset).toArray = ls at hl ⊢
  have hl : lv_has ls 3 [(0, .ref (r 100)), (1, .int p0)] := hl
  refine lv_bipush (v := 24) hx hb dX12_put_0 (by decide) ?_
  refine lv_istore_n (lv' := [(2, .int 24), (0, .ref (r 100)), (1, .int p0)]) hx hb dX12_put_2 rfl hl (by decide) rfl (fun ls hl => ?_)
  refine f_X12_put_24 r kT n (by omega) f p0 hx hb hts hown hG hK hP hD hS (lv_sub hl [1, 2, 0] rfl) (fun H locs n_0 f_0 ls en_0 hP hD hS hl => ?_)
  have hl := hl
  refine f_X12_put_16 r kT n_0 (by have := bz_le p0 24; omega) f_0 p0 hx hb hts hown hG hK hP hD hS (lv_sub hl [0, 1, 2] rfl) (fun H locs n_1 f_1 ls en_1 hP hD hS hl => ?_)
  have hl := hl
  refine f_X12_put_8 r kT n_1 (by have := bz_le p0 24; have := bz_le p0 16; omega) f_1 p0 hx hb hts hown hG hK hP hD hS (lv_sub hl [0, 1, 2] rfl) (fun H locs n_2 f_2 ls en_2 hP hD hS hl => ?_)
  have hl := hl
  refine f_X12_put_0 r kT n_2 (by have := bz_le p0 24; have := bz_le p0 16; have := bz_le p0 8; omega) f_2 p0 hx hb hts hown hG hK hP hD hS (lv_sub hl [0, 1, 2] rfl) (fun H locs n_3 f_3 ls en_3 hP hD hS hl => ?_)
  obtain rfl : n_3 = n + cA p0 := by unfold cA; omega
  refine lv_iload_n hx hb dX12_put_3 rfl (lv_at hl 2 rfl) ?_
  refine lv_if_lt (tgt := 49) hx hb dX12_put_4 (by decide) (fun c_13 => ?_) (fun c_13 => absurd (by decide) c_13)
  have hP9 := hP.sub (ws' := [((r 100), .inr (12, mF r 0 (nI (n + cA p0)) 0 0 0 0 0 0 0 0 0 0 0 (-1) 1)), ((r 1), .inl (kT, 240, .inl f_3))]) [0, 1] rfl
  have hD9 := hD.sub (ws' := [((r 100), .inr (12, mF r 0 (nI (n + cA p0)) 0 0 0 0 0 0 0 0 0 0 0 (-1) 1)), ((r 1), .inl (kT, 240, .inl f_3))]) [0, 1] (by decide) rfl
  have hK9 := hK.sub (tys' := [(kT, .byte)]) [0] rfl
  exact W.vret hx hb hr (fun t ht hW => ⟨⟨(), rfl, trivial, ⟨f_3, by rw [ht]; exact hP9, va_K.moved hW.alike hK9, hD9⟩⟩, hS.F ht⟩) hS.2.2 dX12_put_49
