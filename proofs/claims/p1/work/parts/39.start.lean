set_option maxRecDepth 20000 in
theorem dL_law_0 : decode cL_law 0 = .ok (.new 8, 3) := by decide +kernel
set_option maxRecDepth 20000 in
theorem dL_law_3 : decode cL_law 3 = .ok (.dup, 1) := by decide +kernel
set_option maxRecDepth 20000 in
theorem dL_law_4 : decode cL_law 4 = .ok (.invokespecial 15, 3) := by decide +kernel
set_option maxRecDepth 20000 in
theorem dL_law_7 : decode cL_law 7 = .ok (.astore_n 1, 1) := by decide +kernel
set_option maxRecDepth 20000 in
theorem dL_law_8 : decode cL_law 8 = .ok (.new 16, 3) := by decide +kernel
set_option maxRecDepth 20000 in
theorem dL_law_11 : decode cL_law 11 = .ok (.dup, 1) := by decide +kernel
set_option maxRecDepth 20000 in
theorem dL_law_12 : decode cL_law 12 = .ok (.invokespecial 18, 3) := by decide +kernel
set_option maxRecDepth 20000 in
theorem dL_law_15 : decode cL_law 15 = .ok (.astore_n 2, 1) := by decide +kernel
set_option maxRecDepth 20000 in
theorem dL_law_16 : decode cL_law 16 = .ok (.iconst 1, 1) := by decide +kernel
set_option maxRecDepth 20000 in
theorem dL_law_17 : decode cL_law 17 = .ok (.newarray .long, 2) := by decide +kernel
set_option maxRecDepth 20000 in
theorem dL_law_19 : decode cL_law 19 = .ok (.astore_n 3, 1) := by decide +kernel
set_option maxRecDepth 20000 in
theorem dL_law_20 : decode cL_law 20 = .ok (.iconst 0, 1) := by decide +kernel
set_option maxRecDepth 20000 in
theorem dL_law_21 : decode cL_law 21 = .ok (.istore 4, 2) := by decide +kernel
set_option maxRecDepth 20000 in
theorem dL_law_33 : decode cL_law 33 = .ok (.aload_n 0, 1) := by decide +kernel
set_option maxRecDepth 20000 in
theorem dL_law_34 : decode cL_law 34 = .ok (.iload 4, 2) := by decide +kernel
set_option maxRecDepth 20000 in
theorem dL_law_36 : decode cL_law 36 = .ok (.iaload, 1) := by decide +kernel
set_option maxRecDepth 20000 in
theorem dL_law_37 : decode cL_law 37 = .ok (.bipush 63, 2) := by decide +kernel
set_option maxRecDepth 20000 in
theorem dL_law_39 : decode cL_law 39 = .ok (.iand, 1) := by decide +kernel
set_option maxRecDepth 20000 in
theorem dL_law_40 : decode cL_law 40 = .ok (.tableswitch 1589 0 41 #[184, 257, 282, 307, 332, 369, 406, 474, 499, 524, 537, 562, 587, 624, 649, 674, 743, 756, 793, 830, 867, 904, 941, 978, 1003, 1040, 1093, 1118, 1131, 1156, 1193, 1230, 1255, 1280, 1353, 1402, 1439, 1476, 1501, 1538, 1551, 1564], 184) := by decide +kernel
theorem i_z25 : (25 : Int32).toInt = 25 := by decide
theorem i_z26 : (26 : Int32).toInt = 26 := by decide
theorem i_z27 : (27 : Int32).toInt = 27 := by decide
theorem i_z28 : (28 : Int32).toInt = 28 := by decide
theorem i_z29 : (29 : Int32).toInt = 29 := by decide
theorem i_z31 : (31 : Int32).toInt = 31 := by decide
theorem i_z33 : (33 : Int32).toInt = 33 := by decide
theorem i_z34 : (34 : Int32).toInt = 34 := by decide
theorem i_z35 : (35 : Int32).toInt = 35 := by decide
theorem i_z36 : (36 : Int32).toInt = 36 := by decide
theorem i_z37 : (37 : Int32).toInt = 37 := by decide
theorem i_z38 : (38 : Int32).toInt = 38 := by decide
theorem i_z39 : (39 : Int32).toInt = 39 := by decide
theorem i_z42 : (42 : Int32).toInt = 42 := by decide
theorem i_z43 : (43 : Int32).toInt = 43 := by decide
theorem i_z44 : (44 : Int32).toInt = 44 := by decide
theorem i_z45 : (45 : Int32).toInt = 45 := by decide
theorem i_z46 : (46 : Int32).toInt = 46 := by decide
theorem i_z47 : (47 : Int32).toInt = 47 := by decide
theorem i_z48 : (48 : Int32).toInt = 48 := by decide
theorem i_z49 : (49 : Int32).toInt = 49 := by decide
theorem i_z51 : (51 : Int32).toInt = 51 := by decide
theorem i_z52 : (52 : Int32).toInt = 52 := by decide
theorem i_z53 : (53 : Int32).toInt = 53 := by decide
theorem i_z54 : (54 : Int32).toInt = 54 := by decide
theorem i_z55 : (55 : Int32).toInt = 55 := by decide
theorem i_z56 : (56 : Int32).toInt = 56 := by decide
theorem i_z57 : (57 : Int32).toInt = 57 := by decide
theorem i_z61 : (61 : Int32).toInt = 61 := by decide
theorem i_z62 : (62 : Int32).toInt = 62 := by decide
set_option maxHeartbeats 4000000 in
set_option maxRecDepth 100000 in
/-- THE LAW, from its entry -/
theorem whole_start {p : Program} {e : Env} {s : State} {m : MethodId} {below : List Frame} {meth : Method} {c : Code} (l : Launch) (hflags : l.flags = flags0) {b L : Nat} {xs : Nat → Int32} (hL : L ≤ 6) (C0 : lw_At p s m meth c b L xs) : W p l e room_1 s m #[Value.ref b] below meth c s.heap [] 0 0 (lw_Z below #[Value.ref b] s) (entryFrame m ([Value.ref b] : List Value).toArray 7) := by
  have hlt : l.stackTraces = false := by unfold Launch.stackTraces; rw [hflags]; decide +kernel
  obtain ⟨hx, hb, hr, hml, hown0, hts, hX, hbl, hlocks, hgv⟩ := id C0
  have hown : s.vm.findClass RL = some m.cls := hown0
  have hA : ∀ q : Nat, s.heap.size ≤ q → (fun q : Nat => s.heap.size ≤ q) q := fun _ h => h
  have hbA : ¬ (fun q : Nat => s.heap.size ≤ q) b := Nat.not_le.mpr hbl
  have hG : gxP s := st_gx hts
  obtain ⟨sk, sv, s2, tz, hE⟩ := st_ex hts hgv
  obtain ⟨s3, hT⟩ := st_tp hts hgv
  obtain ⟨c0, i0, hKn0⟩ := u_known (C := RX0) (T := TX0) (N := 3) (n := 3) hts in_X0 (hts (.instantiable RX0 3) (List.mem_of_getElem? (i := 465) (by decide +kernel)))
  obtain ⟨c1, i1, hKn1⟩ := u_known (C := RX1) (T := TX1) (N := 7) (n := 7) hts in_X1 (hts (.instantiable RX1 7) (List.mem_of_getElem? (i := 363) (by decide +kernel)))
  obtain ⟨c2, i2, hKn2⟩ := u_known (C := RX2) (T := TX2) (N := 3) (n := 3) hts in_X2 (hts (.instantiable RX2 3) (List.mem_of_getElem? (i := 252) (by decide +kernel)))
  obtain ⟨c3, i3, hKn3⟩ := u_known (C := RX3) (T := TX3) (N := 12) (n := 12) hts in_X3 (hts (.instantiable RX3 12) (List.mem_of_getElem? (i := 270) (by decide +kernel)))
  obtain ⟨c4, i4, hKn4⟩ := u_known (C := RX4) (T := TX4) (N := 3) (n := 3) hts in_X4 (hts (.instantiable RX4 3) (List.mem_of_getElem? (i := 485) (by decide +kernel)))
  obtain ⟨c5, i5, hKn5⟩ := u_known (C := RX5) (T := TX5) (N := 8) (n := 8) hts in_X5 (hts (.instantiable RX5 8) (List.mem_of_getElem? (i := 207) (by decide +kernel)))
  obtain ⟨c6, i6, hKn6⟩ := u_known (C := RX6) (T := TX6) (N := 7) (n := 7) hts in_X6 (hts (.instantiable RX6 7) (List.mem_of_getElem? (i := 423) (by decide +kernel)))
  obtain ⟨c7, i7, hKn7⟩ := u_known (C := RX7) (T := TX7) (N := 6) (n := 6) hts in_X7 (hts (.instantiable RX7 6) (List.mem_of_getElem? (i := 395) (by decide +kernel)))
  obtain ⟨c8, i8, hKn8⟩ := u_known (C := RX8) (T := TX8) (N := 4) (n := 4) hts in_X8 (hts (.instantiable RX8 4) (List.mem_of_getElem? (i := 181) (by decide +kernel)))
  obtain ⟨c9, i9, hKn9⟩ := u_known (C := RX9) (T := TX9) (N := 5) (n := 5) hts in_X9 (hts (.instantiable RX9 5) (List.mem_of_getElem? (i := 317) (by decide +kernel)))
  obtain ⟨c10, i10, hKn10⟩ := u_known (C := RX10) (T := TX10) (N := 4) (n := 4) hts in_X10 (hts (.instantiable RX10 4) (List.mem_of_getElem? (i := 343) (by decide +kernel)))
  obtain ⟨c11, i11, hKn11⟩ := u_known (C := RX11) (T := TX11) (N := 17) (n := 17) hts in_X11 (hts (.instantiable RX11 17) (List.mem_of_getElem? (i := 173) (by decide +kernel)))
  obtain ⟨c12, i12, hKn12⟩ := u_known (C := RX12) (T := TX12) (N := 54) (n := 54) hts in_X12 (hts (.instantiable RX12 54) (List.mem_of_getElem? (i := 1281) (by decide +kernel)))
  obtain ⟨dC, dI, hKc⟩ : ∃ (dC : Nat → ClassId) (dI : Nat → Nat → Nat), ∀ (k : Nat) (q : vw_C), vwCl[k]? = some q → u_Kn s q.1 q.2.1 q.2.2 (dC k) (dI k) := by
    refine ⟨fun k => match k with | 0 => c0 | 1 => c1 | 2 => c2 | 3 => c3 | 4 => c4 | 5 => c5 | 6 => c6 | 7 => c7 | 8 => c8 | 9 => c9 | 10 => c10 | 11 => c11 | 12 => c12 | _ => c0, fun k => match k with | 0 => i0 | 1 => i1 | 2 => i2 | 3 => i3 | 4 => i4 | 5 => i5 | 6 => i6 | 7 => i7 | 8 => i8 | 9 => i9 | 10 => i10 | 11 => i11 | 12 => i12 | _ => i0, ?_⟩
    intro k q hq
    match k, hq with
    | 0, hq => cases hq; exact hKn0
    | 1, hq => cases hq; exact hKn1
    | 2, hq => cases hq; exact hKn2
    | 3, hq => cases hq; exact hKn3
    | 4, hq => cases hq; exact hKn4
    | 5, hq => cases hq; exact hKn5
    | 6, hq => cases hq; exact hKn6
    | 7, hq => cases hq; exact hKn7
    | 8, hq => cases hq; exact hKn8
    | 9, hq => cases hq; exact hKn9
    | 10, hq => cases hq; exact hKn10
    | 11, hq => cases hq; exact hKn11
    | 12, hq => cases hq; exact hKn12
    | k + 13, hq => simp [vwCl] at hq
  have hS : va_S (fun q : Nat => s.heap.size ≤ q) s.heap s.heap [] := va_S.rf
  have hK : va_K (dC, dI) vwCl [] s := ⟨hKc, fun k q h => by simp at h⟩
  have hP : va_P (dC, dI) vwCl [] s.heap := va_P_nil _
  have hD : va_D (fun q : Nat => s.heap.size ≤ q) [] := va_D_nil
  have hl := lv_entry ([.ref b]) (n := 7) (Nat.le_of_ble_eq_true rfl)
  rw [lg_entry_eq]
  generalize (lg_sl ([.ref b]) ++ List.replicate (7 - (lg_sl ([.ref b])).length) Slot.unset).toArray = ls at hl ⊢
  have hl : lv_has ls 7 [(0, .ref b)] := hl
  refine va_new (ci := 11) (fs := [.null, .null, .null, .null, .null, .null, .null, .null, .null, .null, .null, .null, .null, .null, .null, .int 0, .int 0]) (C := RX11) (T := TX11) (N := 17) hx hb hts in_X11 tyX11 tyX11_ok hown (hts (.classLink RL 8 "WallChapels") (List.mem_of_getElem? (i := 172) (by decide +kernel))) (hts (.instantiable RX11 17) (List.mem_of_getElem? (i := 173) (by decide +kernel))) (hts (.initialized RX11) (List.mem_of_getElem? (i := 148) (by decide +kernel))) hK hP hD hS hA rfl (lt_s (lt_s (lt_s (lt_s (lt_s (lt_s (lt_s (lt_s (lt_s (lt_s (lt_s (lt_s (lt_s (lt_s (lt_s (lt_s (lt_s lt_0 rfl) rfl) rfl) rfl) rfl) rfl) rfl) rfl) rfl) rfl) rfl) rfl) rfl) rfl) rfl) rfl) rfl) (Nat.le_of_ble_eq_true rfl) (Nat.le_of_ble_eq_true rfl) dL_law_0 (fun h0 H hP hD hS => ?_)
  have hP : va_P (dC, dI) vwCl [(h0, .inr (11, [.null, .null, .null, .null, .null, .null, .null, .null, .null, .null, .null, .null, .null, .null, .null, .int 0, .int 0]))] H := hP
  have hD : va_D (fun q : Nat => s.heap.size ≤ q) [(h0, .inr (11, [.null, .null, .null, .null, .null, .null, .null, .null, .null, .null, .null, .null, .null, .null, .null, .int 0, .int 0]))] := hD
  refine W.widen (k := 1) (n := 17) (Nat.le_of_ble_eq_true rfl) (Nat.le_of_ble_eq_true rfl) ?_
  refine lv_dup hx hb dL_law_3 rfl ?_
  have hPc := hP.sub (ws' := [(h0, .inr (11, [.null, .null, .null, .null, .null, .null, .null, .null, .null, .null, .null, .null, .null, .null, .null, .int 0, .int 0]))]) [0] rfl
  have hDc := hD.sub (ws' := [(h0, .inr (11, [.null, .null, .null, .null, .null, .null, .null, .null, .null, .null, .null, .null, .null, .null, .null, .int 0, .int 0]))]) [0] (by decide) rfl
  have hKc9 := hK.sub (tys' := []) [] rfl
  have hFc := va_free (wc := [(h0, .inr (11, [.null, .null, .null, .null, .null, .null, .null, .null, .null, .null, .null, .null, .null, .null, .null, .int 0, .int 0]))]) hD hS hA [0] rfl
  refine va_callv (va_runI (As := []) (rest := [.ref h0]) ⟨hx, hb, hml, hown, hts⟩ (f_X11_init l dC dI H.size h0) (cwI 0 hts g_f_L_law_f_X11_init rfl rfl rfl (hts (.initialized RX11) (List.mem_of_getElem? (i := 148) (by decide +kernel))) (hts (.methodLink RL 15 yX11_init) (List.mem_of_getElem? (i := 174) (by decide +kernel))) (hts (.instanceMethod yX11_init) (List.mem_of_getElem? (i := 175) (by decide +kernel))) rfl (by decide +kernel) ⟨Nat.le_of_ble_eq_true rfl, Nat.le_of_ble_eq_true rfl⟩) ⟨cW_blind, fun U hU hW => ⟨rfl, cW_use hU hW hPc hKc9 hDc hG⟩⟩ rfl rfl hl.1 rfl (lv_room (Nat.le_of_ble_eq_true rfl)) dL_law_4 ⟨Nat.le_of_ble_eq_true rfl, Nat.le_of_ble_eq_true rfl⟩) hS (fun q _ h => hFc q h) hFc (fun u t H1 locs ht hvm hw hB hz1 hk1 hS => ?_)
  obtain ⟨q, kB, kR, hr9, hP1, hK1, hD1⟩ := hB
  rw [ht] at hP1
  have hK1 := va_K.moved hvm.symm hK1
  obtain ⟨hP, hD⟩ := va_join (wr := []) (w1 := [((q 15), .inr (11, xF q 0 1)), ((q 0), .inr (8, [.ref (q 16), .int 0, .int 0, .int 0])), ((q 16), .inl (kB, 240, .inl (fun _ => 0))), ((q 1), .inr (5, [.int 0, .int 0, .int 0, .int 0, .ref (q 20), .ref (q 21), .ref (q 22), .ref (q 23)])), ((q 2), .inr (5, [.int 0, .int 0, .int 0, .int 0, .ref (q 24), .ref (q 25), .ref (q 26), .ref (q 27)])), ((q 24), .inl (kR, 2, .inl (fun _ => 0))), ((q 3), .inr (2, [.ref (q 0), .ref (q 28), .int 0])), ((q 4), .inr (3, [.ref (q 30), .ref (q 31), .ref (q 32), .int 0, .int 0, .int (-1), .int 0, .int 0, .int 0, .int 0, .int 0, .int 0])), ((q 5), .inr (9, [.ref (q 33), .ref (q 34), .ref (q 35), .int 0, .int 0])), ((q 8), .inr (7, [.ref (q 36), .ref (q 37), .ref (q 38), .ref (q 39), .int 0, .int 0])), ((q 9), .inr (6, [.int 0, .int 0, .int 0, .ref (q 40), .ref (q 41), .ref (q 42), .ref (q 43)])), ((q 11), .inr (0, [.ref (q 44), .int 0, .int 0]))]) hP hD [0] [] rfl rfl (by decide) (by decide) hk1 hFc hP1 hD1
  have hK := hK.app hK1
  generalize H1 = H at hP hS ⊢
  have hP : va_P (dC, dI) vwCl [((q 15), .inr (11, xF q 0 1)), ((q 0), .inr (8, [.ref (q 16), .int 0, .int 0, .int 0])), ((q 16), .inl (kB, 240, .inl (fun _ => 0))), ((q 1), .inr (5, [.int 0, .int 0, .int 0, .int 0, .ref (q 20), .ref (q 21), .ref (q 22), .ref (q 23)])), ((q 2), .inr (5, [.int 0, .int 0, .int 0, .int 0, .ref (q 24), .ref (q 25), .ref (q 26), .ref (q 27)])), ((q 24), .inl (kR, 2, .inl (fun _ => 0))), ((q 3), .inr (2, [.ref (q 0), .ref (q 28), .int 0])), ((q 4), .inr (3, [.ref (q 30), .ref (q 31), .ref (q 32), .int 0, .int 0, .int (-1), .int 0, .int 0, .int 0, .int 0, .int 0, .int 0])), ((q 5), .inr (9, [.ref (q 33), .ref (q 34), .ref (q 35), .int 0, .int 0])), ((q 8), .inr (7, [.ref (q 36), .ref (q 37), .ref (q 38), .ref (q 39), .int 0, .int 0])), ((q 9), .inr (6, [.int 0, .int 0, .int 0, .ref (q 40), .ref (q 41), .ref (q 42), .ref (q 43)])), ((q 11), .inr (0, [.ref (q 44), .int 0, .int 0]))] H := hP
  have hD : va_D (fun q : Nat => s.heap.size ≤ q) [((q 15), .inr (11, xF q 0 1)), ((q 0), .inr (8, [.ref (q 16), .int 0, .int 0, .int 0])), ((q 16), .inl (kB, 240, .inl (fun _ => 0))), ((q 1), .inr (5, [.int 0, .int 0, .int 0, .int 0, .ref (q 20), .ref (q 21), .ref (q 22), .ref (q 23)])), ((q 2), .inr (5, [.int 0, .int 0, .int 0, .int 0, .ref (q 24), .ref (q 25), .ref (q 26), .ref (q 27)])), ((q 24), .inl (kR, 2, .inl (fun _ => 0))), ((q 3), .inr (2, [.ref (q 0), .ref (q 28), .int 0])), ((q 4), .inr (3, [.ref (q 30), .ref (q 31), .ref (q 32), .int 0, .int 0, .int (-1), .int 0, .int 0, .int 0, .int 0, .int 0, .int 0])), ((q 5), .inr (9, [.ref (q 33), .ref (q 34), .ref (q 35), .int 0, .int 0])), ((q 8), .inr (7, [.ref (q 36), .ref (q 37), .ref (q 38), .ref (q 39), .int 0, .int 0])), ((q 9), .inr (6, [.int 0, .int 0, .int 0, .ref (q 40), .ref (q 41), .ref (q 42), .ref (q 43)])), ((q 11), .inr (0, [.ref (q 44), .int 0, .int 0]))] := hD
  have hK : va_K (dC, dI) vwCl [(kB, .int), (kR, .int)] s := hK
  rw [← hr9]
  clear hPc hDc hFc hKc9
  refine W.widen (k := 314) (n := 6218) (Nat.le_of_ble_eq_true rfl) (Nat.le_of_ble_eq_true rfl) ?_
  refine lv_astore_n (lv' := [(1, .ref (q 15)), (0, .ref b)]) hx hb dL_law_7 rfl hl (by decide) rfl (fun ls hl => ?_)
  refine va_new (ci := 12) (fs := [.int 0, .null, .null, .null, .null, .null, .int 0, .int 0, .int 0, .int 0, .int 0, .int 0, .int 0, .int 0, .int 0, .null, .null, .int 0, .null, .null, .null, .null, .null, .null, .null, .int 0, .int 0, .int 0, .int 0, .int 0, .int 0, .int 0, .null, .null, .int 0, .int 0, .null, .null, .null, .int 0, .int 0, .null, .int 0, .long 0, .int 0, .int 0, .int 0, .int 0, .int 0, .int 0, .null, .int 0, .null, .int 0]) (C := RX12) (T := TX12) (N := 54) hx hb hts in_X12 tyX12 tyX12_ok hown (hts (.classLink RL 16 "WallChapelsModel") (List.mem_of_getElem? (i := 1280) (by decide +kernel))) (hts (.instantiable RX12 54) (List.mem_of_getElem? (i := 1281) (by decide +kernel))) (hts (.initialized RX12) (List.mem_of_getElem? (i := 160) (by decide +kernel))) hK hP hD hS hA rfl (lt_s (lt_s (lt_s (lt_s (lt_s (lt_s (lt_s (lt_s (lt_s (lt_s (lt_s (lt_s (lt_s (lt_s (lt_s (lt_s (lt_s (lt_s (lt_s (lt_s (lt_s (lt_s (lt_s (lt_s (lt_s (lt_s (lt_s (lt_s (lt_s (lt_s (lt_s (lt_s (lt_s (lt_s (lt_s (lt_s (lt_s (lt_s (lt_s (lt_s (lt_s (lt_s (lt_s (lt_s (lt_s (lt_s (lt_s (lt_s (lt_s (lt_s (lt_s (lt_s (lt_s (lt_s lt_0 rfl) rfl) rfl) rfl) rfl) rfl) rfl) rfl) rfl) rfl) rfl) rfl) rfl) rfl) rfl) rfl) rfl) rfl) rfl) rfl) rfl) rfl) rfl) rfl) rfl) rfl) rfl) rfl) rfl) rfl) rfl) rfl) rfl) rfl) rfl) rfl) rfl) rfl) rfl) rfl) rfl) rfl) rfl) rfl) rfl) rfl) rfl) rfl) rfl) rfl) rfl) rfl) rfl) rfl) (Nat.le_of_ble_eq_true rfl) (Nat.le_of_ble_eq_true rfl) dL_law_8 (fun h1 H hP hD hS => ?_)
  have hP : va_P (dC, dI) vwCl [((q 15), .inr (11, xF q 0 1)), ((q 0), .inr (8, [.ref (q 16), .int 0, .int 0, .int 0])), ((q 16), .inl (kB, 240, .inl (fun _ => 0))), ((q 1), .inr (5, [.int 0, .int 0, .int 0, .int 0, .ref (q 20), .ref (q 21), .ref (q 22), .ref (q 23)])), ((q 2), .inr (5, [.int 0, .int 0, .int 0, .int 0, .ref (q 24), .ref (q 25), .ref (q 26), .ref (q 27)])), ((q 24), .inl (kR, 2, .inl (fun _ => 0))), ((q 3), .inr (2, [.ref (q 0), .ref (q 28), .int 0])), ((q 4), .inr (3, [.ref (q 30), .ref (q 31), .ref (q 32), .int 0, .int 0, .int (-1), .int 0, .int 0, .int 0, .int 0, .int 0, .int 0])), ((q 5), .inr (9, [.ref (q 33), .ref (q 34), .ref (q 35), .int 0, .int 0])), ((q 8), .inr (7, [.ref (q 36), .ref (q 37), .ref (q 38), .ref (q 39), .int 0, .int 0])), ((q 9), .inr (6, [.int 0, .int 0, .int 0, .ref (q 40), .ref (q 41), .ref (q 42), .ref (q 43)])), ((q 11), .inr (0, [.ref (q 44), .int 0, .int 0])), (h1, .inr (12, [.int 0, .null, .null, .null, .null, .null, .int 0, .int 0, .int 0, .int 0, .int 0, .int 0, .int 0, .int 0, .int 0, .null, .null, .int 0, .null, .null, .null, .null, .null, .null, .null, .int 0, .int 0, .int 0, .int 0, .int 0, .int 0, .int 0, .null, .null, .int 0, .int 0, .null, .null, .null, .int 0, .int 0, .null, .int 0, .long 0, .int 0, .int 0, .int 0, .int 0, .int 0, .int 0, .null, .int 0, .null, .int 0]))] H := hP
  have hD : va_D (fun q : Nat => s.heap.size ≤ q) [((q 15), .inr (11, xF q 0 1)), ((q 0), .inr (8, [.ref (q 16), .int 0, .int 0, .int 0])), ((q 16), .inl (kB, 240, .inl (fun _ => 0))), ((q 1), .inr (5, [.int 0, .int 0, .int 0, .int 0, .ref (q 20), .ref (q 21), .ref (q 22), .ref (q 23)])), ((q 2), .inr (5, [.int 0, .int 0, .int 0, .int 0, .ref (q 24), .ref (q 25), .ref (q 26), .ref (q 27)])), ((q 24), .inl (kR, 2, .inl (fun _ => 0))), ((q 3), .inr (2, [.ref (q 0), .ref (q 28), .int 0])), ((q 4), .inr (3, [.ref (q 30), .ref (q 31), .ref (q 32), .int 0, .int 0, .int (-1), .int 0, .int 0, .int 0, .int 0, .int 0, .int 0])), ((q 5), .inr (9, [.ref (q 33), .ref (q 34), .ref (q 35), .int 0, .int 0])), ((q 8), .inr (7, [.ref (q 36), .ref (q 37), .ref (q 38), .ref (q 39), .int 0, .int 0])), ((q 9), .inr (6, [.int 0, .int 0, .int 0, .ref (q 40), .ref (q 41), .ref (q 42), .ref (q 43)])), ((q 11), .inr (0, [.ref (q 44), .int 0, .int 0])), (h1, .inr (12, [.int 0, .null, .null, .null, .null, .null, .int 0, .int 0, .int 0, .int 0, .int 0, .int 0, .int 0, .int 0, .int 0, .null, .null, .int 0, .null, .null, .null, .null, .null, .null, .null, .int 0, .int 0, .int 0, .int 0, .int 0, .int 0, .int 0, .null, .null, .int 0, .int 0, .null, .null, .null, .int 0, .int 0, .null, .int 0, .long 0, .int 0, .int 0, .int 0, .int 0, .int 0, .int 0, .null, .int 0, .null, .int 0]))] := hD
  refine W.widen (k := 315) (n := 6272) (Nat.le_of_ble_eq_true rfl) (Nat.le_of_ble_eq_true rfl) ?_
  refine lv_dup hx hb dL_law_11 rfl ?_
  have hPc := hP.sub (ws' := [(h1, .inr (12, [.int 0, .null, .null, .null, .null, .null, .int 0, .int 0, .int 0, .int 0, .int 0, .int 0, .int 0, .int 0, .int 0, .null, .null, .int 0, .null, .null, .null, .null, .null, .null, .null, .int 0, .int 0, .int 0, .int 0, .int 0, .int 0, .int 0, .null, .null, .int 0, .int 0, .null, .null, .null, .int 0, .int 0, .null, .int 0, .long 0, .int 0, .int 0, .int 0, .int 0, .int 0, .int 0, .null, .int 0, .null, .int 0]))]) [12] rfl
  have hDc := hD.sub (ws' := [(h1, .inr (12, [.int 0, .null, .null, .null, .null, .null, .int 0, .int 0, .int 0, .int 0, .int 0, .int 0, .int 0, .int 0, .int 0, .null, .null, .int 0, .null, .null, .null, .null, .null, .null, .null, .int 0, .int 0, .int 0, .int 0, .int 0, .int 0, .int 0, .null, .null, .int 0, .int 0, .null, .null, .null, .int 0, .int 0, .null, .int 0, .long 0, .int 0, .int 0, .int 0, .int 0, .int 0, .int 0, .null, .int 0, .null, .int 0]))]) [12] (by decide) rfl
  have hKc9 := hK.sub (tys' := []) [] rfl
  have hFc := va_free (wc := [(h1, .inr (12, [.int 0, .null, .null, .null, .null, .null, .int 0, .int 0, .int 0, .int 0, .int 0, .int 0, .int 0, .int 0, .int 0, .null, .null, .int 0, .null, .null, .null, .null, .null, .null, .null, .int 0, .int 0, .int 0, .int 0, .int 0, .int 0, .int 0, .null, .null, .int 0, .int 0, .null, .null, .null, .int 0, .int 0, .null, .int 0, .long 0, .int 0, .int 0, .int 0, .int 0, .int 0, .int 0, .null, .int 0, .null, .int 0]))]) hD hS hA [12] rfl
  refine va_callv (va_runI (As := []) (rest := [.ref h1]) ⟨hx, hb, hml, hown, hts⟩ (f_X12_init l dC dI H.size sk sv s2 tz h1) (cwI 0 hts g_f_L_law_f_X12_init rfl rfl rfl (hts (.initialized RX12) (List.mem_of_getElem? (i := 160) (by decide +kernel))) (hts (.methodLink RL 18 yX12_init) (List.mem_of_getElem? (i := 1282) (by decide +kernel))) (hts (.instanceMethod yX12_init) (List.mem_of_getElem? (i := 1283) (by decide +kernel))) rfl (by decide +kernel) ⟨Nat.le_of_ble_eq_true rfl, Nat.le_of_ble_eq_true rfl⟩) ⟨cW_blindx, fun U hU hW => ⟨rfl, cW_usex hU hW hPc hKc9 hDc hG hS hFc hE⟩⟩ rfl rfl hl.1 rfl (lv_room (Nat.le_of_ble_eq_true rfl)) dL_law_12 ⟨Nat.le_of_ble_eq_true rfl, Nat.le_of_ble_eq_true rfl⟩) hS (fun q _ h => hFc q h) hFc (fun u t H1 locs ht hvm hw hB hz1 hk1 hS => ?_)
  obtain ⟨r, kT, kU, kL, kN, hr9, hP1, hK1, hD1⟩ := hB
  rw [ht] at hP1
  have hK1 := va_K.moved hvm.symm hK1
  obtain ⟨hP, hD⟩ := va_join (wr := [((q 15), .inr (11, xF q 0 1)), ((q 0), .inr (8, [.ref (q 16), .int 0, .int 0, .int 0])), ((q 16), .inl (kB, 240, .inl (fun _ => 0))), ((q 1), .inr (5, [.int 0, .int 0, .int 0, .int 0, .ref (q 20), .ref (q 21), .ref (q 22), .ref (q 23)])), ((q 2), .inr (5, [.int 0, .int 0, .int 0, .int 0, .ref (q 24), .ref (q 25), .ref (q 26), .ref (q 27)])), ((q 24), .inl (kR, 2, .inl (fun _ => 0))), ((q 3), .inr (2, [.ref (q 0), .ref (q 28), .int 0])), ((q 4), .inr (3, [.ref (q 30), .ref (q 31), .ref (q 32), .int 0, .int 0, .int (-1), .int 0, .int 0, .int 0, .int 0, .int 0, .int 0])), ((q 5), .inr (9, [.ref (q 33), .ref (q 34), .ref (q 35), .int 0, .int 0])), ((q 8), .inr (7, [.ref (q 36), .ref (q 37), .ref (q 38), .ref (q 39), .int 0, .int 0])), ((q 9), .inr (6, [.int 0, .int 0, .int 0, .ref (q 40), .ref (q 41), .ref (q 42), .ref (q 43)])), ((q 11), .inr (0, [.ref (q 44), .int 0, .int 0]))]) (w1 := [((r 100), .inr (12, mF r 0 0 0 0 0 0 0 0 0 0 0 0 0 (-1) 1)), ((r 1), .inl (kT, 240, .inl (fun _ => 0))), ((r 18), .inl (kU, 2, .inl (fun _ => 0))), ((r 24), .inl (kL, 5, .inl (fun _ => 0))), ((r 32), .inl (kN, 208, .inl (fun _ => 0)))]) hP hD [12] [0, 1, 2, 3, 4, 5, 6, 7, 8, 9, 10, 11] rfl rfl (by decide) (by decide) hk1 hFc hP1 hD1
  have hK := hK.app hK1
  generalize H1 = H at hP hS ⊢
  have hP : va_P (dC, dI) vwCl [((q 15), .inr (11, xF q 0 1)), ((q 0), .inr (8, [.ref (q 16), .int 0, .int 0, .int 0])), ((q 16), .inl (kB, 240, .inl (fun _ => 0))), ((q 1), .inr (5, [.int 0, .int 0, .int 0, .int 0, .ref (q 20), .ref (q 21), .ref (q 22), .ref (q 23)])), ((q 2), .inr (5, [.int 0, .int 0, .int 0, .int 0, .ref (q 24), .ref (q 25), .ref (q 26), .ref (q 27)])), ((q 24), .inl (kR, 2, .inl (fun _ => 0))), ((q 3), .inr (2, [.ref (q 0), .ref (q 28), .int 0])), ((q 4), .inr (3, [.ref (q 30), .ref (q 31), .ref (q 32), .int 0, .int 0, .int (-1), .int 0, .int 0, .int 0, .int 0, .int 0, .int 0])), ((q 5), .inr (9, [.ref (q 33), .ref (q 34), .ref (q 35), .int 0, .int 0])), ((q 8), .inr (7, [.ref (q 36), .ref (q 37), .ref (q 38), .ref (q 39), .int 0, .int 0])), ((q 9), .inr (6, [.int 0, .int 0, .int 0, .ref (q 40), .ref (q 41), .ref (q 42), .ref (q 43)])), ((q 11), .inr (0, [.ref (q 44), .int 0, .int 0])), ((r 100), .inr (12, mF r 0 0 0 0 0 0 0 0 0 0 0 0 0 (-1) 1)), ((r 1), .inl (kT, 240, .inl (fun _ => 0))), ((r 18), .inl (kU, 2, .inl (fun _ => 0))), ((r 24), .inl (kL, 5, .inl (fun _ => 0))), ((r 32), .inl (kN, 208, .inl (fun _ => 0)))] H := hP
  have hD : va_D (fun q : Nat => s.heap.size ≤ q) [((q 15), .inr (11, xF q 0 1)), ((q 0), .inr (8, [.ref (q 16), .int 0, .int 0, .int 0])), ((q 16), .inl (kB, 240, .inl (fun _ => 0))), ((q 1), .inr (5, [.int 0, .int 0, .int 0, .int 0, .ref (q 20), .ref (q 21), .ref (q 22), .ref (q 23)])), ((q 2), .inr (5, [.int 0, .int 0, .int 0, .int 0, .ref (q 24), .ref (q 25), .ref (q 26), .ref (q 27)])), ((q 24), .inl (kR, 2, .inl (fun _ => 0))), ((q 3), .inr (2, [.ref (q 0), .ref (q 28), .int 0])), ((q 4), .inr (3, [.ref (q 30), .ref (q 31), .ref (q 32), .int 0, .int 0, .int (-1), .int 0, .int 0, .int 0, .int 0, .int 0, .int 0])), ((q 5), .inr (9, [.ref (q 33), .ref (q 34), .ref (q 35), .int 0, .int 0])), ((q 8), .inr (7, [.ref (q 36), .ref (q 37), .ref (q 38), .ref (q 39), .int 0, .int 0])), ((q 9), .inr (6, [.int 0, .int 0, .int 0, .ref (q 40), .ref (q 41), .ref (q 42), .ref (q 43)])), ((q 11), .inr (0, [.ref (q 44), .int 0, .int 0])), ((r 100), .inr (12, mF r 0 0 0 0 0 0 0 0 0 0 0 0 0 (-1) 1)), ((r 1), .inl (kT, 240, .inl (fun _ => 0))), ((r 18), .inl (kU, 2, .inl (fun _ => 0))), ((r 24), .inl (kL, 5, .inl (fun _ => 0))), ((r 32), .inl (kN, 208, .inl (fun _ => 0)))] := hD
  have hK : va_K (dC, dI) vwCl [(kB, .int), (kR, .int), (kT, .byte), (kU, .int), (kL, .int), (kN, .int)] s := hK
  rw [← hr9]
  clear hPc hDc hFc hKc9
  refine W.widen (k := 334) (n := 33213) (Nat.le_of_ble_eq_true rfl) (Nat.le_of_ble_eq_true rfl) ?_
  refine lv_astore_n (lv' := [(2, .ref (r 100)), (1, .ref (q 15)), (0, .ref b)]) hx hb dL_law_15 rfl hl (by decide) rfl (fun ls hl => ?_)
  refine lv_iconst (v := 1) hx hb dL_law_16 (by decide) ?_
  refine va_newa (atype := .long) (ty := .long) (a0 := (1, .inr (.inl (fun _ => 0)))) hx hb (hts (.arrayClass .long) (List.mem_of_getElem? (i := 1451) (by decide +kernel))) rfl hK hP hD hS hA (fun _ => rfl) (by decide) (by decide) (Nat.le_of_ble_eq_true rfl) (Nat.le_of_ble_eq_true rfl) (Nat.le_of_ble_eq_true rfl) dL_law_17 (fun qo co H hK hP hD hS => ?_)
  have hP := hP.sub (ws' := [((q 15), .inr (11, xF q 0 1)), ((q 0), .inr (8, [.ref (q 16), .int 0, .int 0, .int 0])), ((q 16), .inl (kB, 240, .inl (fun _ => 0))), ((q 1), .inr (5, [.int 0, .int 0, .int 0, .int 0, .ref (q 20), .ref (q 21), .ref (q 22), .ref (q 23)])), ((q 2), .inr (5, [.int 0, .int 0, .int 0, .int 0, .ref (q 24), .ref (q 25), .ref (q 26), .ref (q 27)])), ((q 24), .inl (kR, 2, .inl (fun _ => 0))), ((q 3), .inr (2, [.ref (q 0), .ref (q 28), .int 0])), ((q 4), .inr (3, [.ref (q 30), .ref (q 31), .ref (q 32), .int 0, .int 0, .int (-1), .int 0, .int 0, .int 0, .int 0, .int 0, .int 0])), ((q 5), .inr (9, [.ref (q 33), .ref (q 34), .ref (q 35), .int 0, .int 0])), ((q 8), .inr (7, [.ref (q 36), .ref (q 37), .ref (q 38), .ref (q 39), .int 0, .int 0])), ((q 9), .inr (6, [.int 0, .int 0, .int 0, .ref (q 40), .ref (q 41), .ref (q 42), .ref (q 43)])), ((q 11), .inr (0, [.ref (q 44), .int 0, .int 0])), ((r 100), .inr (12, mF r 0 0 0 0 0 0 0 0 0 0 0 0 0 (-1) 1)), ((r 1), .inl (kT, 240, .inl (fun _ => 0))), ((r 18), .inl (kU, 2, .inl (fun _ => 0))), ((r 24), .inl (kL, 5, .inl (fun _ => 0))), ((r 32), .inl (kN, 208, .inl (fun _ => 0)))]) [0, 1, 2, 3, 4, 5, 6, 7, 8, 9, 10, 11, 12, 13, 14, 15, 16] rfl
  have hD := hD.sub (ws' := [((q 15), .inr (11, xF q 0 1)), ((q 0), .inr (8, [.ref (q 16), .int 0, .int 0, .int 0])), ((q 16), .inl (kB, 240, .inl (fun _ => 0))), ((q 1), .inr (5, [.int 0, .int 0, .int 0, .int 0, .ref (q 20), .ref (q 21), .ref (q 22), .ref (q 23)])), ((q 2), .inr (5, [.int 0, .int 0, .int 0, .int 0, .ref (q 24), .ref (q 25), .ref (q 26), .ref (q 27)])), ((q 24), .inl (kR, 2, .inl (fun _ => 0))), ((q 3), .inr (2, [.ref (q 0), .ref (q 28), .int 0])), ((q 4), .inr (3, [.ref (q 30), .ref (q 31), .ref (q 32), .int 0, .int 0, .int (-1), .int 0, .int 0, .int 0, .int 0, .int 0, .int 0])), ((q 5), .inr (9, [.ref (q 33), .ref (q 34), .ref (q 35), .int 0, .int 0])), ((q 8), .inr (7, [.ref (q 36), .ref (q 37), .ref (q 38), .ref (q 39), .int 0, .int 0])), ((q 9), .inr (6, [.int 0, .int 0, .int 0, .ref (q 40), .ref (q 41), .ref (q 42), .ref (q 43)])), ((q 11), .inr (0, [.ref (q 44), .int 0, .int 0])), ((r 100), .inr (12, mF r 0 0 0 0 0 0 0 0 0 0 0 0 0 (-1) 1)), ((r 1), .inl (kT, 240, .inl (fun _ => 0))), ((r 18), .inl (kU, 2, .inl (fun _ => 0))), ((r 24), .inl (kL, 5, .inl (fun _ => 0))), ((r 32), .inl (kN, 208, .inl (fun _ => 0)))]) [0, 1, 2, 3, 4, 5, 6, 7, 8, 9, 10, 11, 12, 13, 14, 15, 16] (by decide) rfl
  have hK := hK.sub (tys' := [(kB, .int), (kR, .int), (kT, .byte), (kU, .int), (kL, .int), (kN, .int)]) [0, 1, 2, 3, 4, 5] rfl
  refine W.widen (k := 335) (n := 33214) (Nat.le_of_ble_eq_true rfl) (Nat.le_of_ble_eq_true rfl) ?_
  refine lv_astore_n (lv' := [(3, .ref qo), (2, .ref (r 100)), (1, .ref (q 15)), (0, .ref b)]) hx hb dL_law_19 rfl hl (by decide) rfl (fun ls hl => ?_)
  refine lv_iconst (v := 0) hx hb dL_law_20 (by decide) ?_
  refine lv_istore (lv' := [(4, .int 0), (3, .ref qo), (2, .ref (r 100)), (1, .ref (q 15)), (0, .ref b)]) hx hb dL_law_21 hl (by decide) rfl (fun ls hl => ?_)
  refine lv_iload hx hb dL_law_23 (lv_at hl 0 rfl) ?_
  refine lv_aload_n hx hb dL_law_25 rfl (lv_at hl 4 rfl) ?_
  refine va_slen hx hb hX hbl hbA hS dL_law_26 ?_
  refine lv_bipush (v := 6) hx hb dL_law_27 (by decide) ?_
  refine lv_isub hx hb dL_law_29 ?_
  by_cases h6 : L = 6
  · subst h6
    refine lv_topi (fun v_1 e_1 => ?_)
    obtain rfl : v_1 = 0 := by rw [e_1]; decide
    refine lv_icmp_gt (tgt := 1635) hx hb dL_law_30 (by decide) (fun c9 => absurd c9 (by decide)) (fun _ => ?_)
    refine lv_aload_n hx hb dL_law_33 rfl (lv_at hl 4 rfl) ?_
    refine lv_iload hx hb dL_law_34 (lv_at hl 0 rfl) ?_
    refine va_sld hx hb hX hbl hbA hS (i := 0) (vp_in_nI (n := 0) (by decide) (by decide)) dL_law_36 ?_
    refine lv_bipush (v := 63) hx hb dL_law_37 (by decide) ?_
    refine lv_iand hx hb dL_law_39 ?_
    refine lv_topi (fun v e_v => ?_)
    obtain ⟨j, hj, ej⟩ := pk_andE (xs 0) (m := 63) 6 (by decide)
    obtain rfl : v = nI j := by rw [e_v, ← ej]; exact congrArg (fun z => xs z &&& 63) (by decide)
    have hl : lv_has ls 7 [(0, .ref b), (1, .ref (q 15)), (2, .ref (r 100)), (3, .ref qo), (4, .int 0)] := lv_sub hl [4, 3, 2, 1, 0] rfl
    have key : ∀ a : Nat, a < 42 → W p l e room_1 s m #[Value.ref b] below meth c H locs 335 33214 (lw_Z below #[Value.ref b] s) (F0 m 40 ls [.int (nI a)]) := by
      refine lt_s (lt_s (lt_s (lt_s (lt_s (lt_s (lt_s (lt_s (lt_s (lt_s (lt_s (lt_s (lt_s (lt_s (lt_s (lt_s (lt_s (lt_s (lt_s (lt_s (lt_s (lt_s (lt_s (lt_s (lt_s (lt_s (lt_s (lt_s (lt_s (lt_s (lt_s (lt_s (lt_s (lt_s (lt_s (lt_s (lt_s (lt_s (lt_s (lt_s (lt_s (lt_s lt_0 ?_) ?_) ?_) ?_) ?_) ?_) ?_) ?_) ?_) ?_) ?_) ?_) ?_) ?_) ?_) ?_) ?_) ?_) ?_) ?_) ?_) ?_) ?_) ?_) ?_) ?_) ?_) ?_) ?_) ?_) ?_) ?_) ?_) ?_) ?_) ?_) ?_) ?_) ?_) ?_) ?_) ?_
      · refine lv_tableIn (off := 184) (tgt := 224) hx hb dL_law_40 (by decide) (by decide) rfl (by decide) ?_
        exact lc_0 q r kB kR kT kU kL kN (fun _ => 0) (fun _ => 0) qo hlt C0 hG hE hT hK hP hD hS hl
      · refine lv_tableIn (off := 257) (tgt := 297) hx hb dL_law_40 (by decide) (by decide) rfl (by decide) ?_
        exact lc_1 q r kB kR kT kU kL kN (fun _ => 0) (fun _ => 0) qo hlt C0 hG hE hT hK hP hD hS hl
      · refine lv_tableIn (off := 282) (tgt := 322) hx hb dL_law_40 (by decide) (by decide) rfl (by decide) ?_
        exact lc_2 q r kB kR kT kU kL kN (fun _ => 0) (fun _ => 0) qo hlt C0 hG hE hT hK hP hD hS hl
      · refine lv_tableIn (off := 307) (tgt := 347) hx hb dL_law_40 (by decide) (by decide) rfl (by decide) ?_
        exact lc_3 q r kB kR kT kU kL kN (fun _ => 0) (fun _ => 0) qo hlt C0 hG hE hT hK hP hD hS hl
      · refine lv_tableIn (off := 332) (tgt := 372) hx hb dL_law_40 (by decide) (by decide) rfl (by decide) ?_
        exact lc_4 q r kB kR kT kU kL kN (fun _ => 0) (fun _ => 0) qo hlt C0 hG hE hT hK hP hD hS hl
      · refine lv_tableIn (off := 369) (tgt := 409) hx hb dL_law_40 (by decide) (by decide) rfl (by decide) ?_
        exact lc_5 q r kB kR kT kU kL kN (fun _ => 0) (fun _ => 0) qo hlt C0 hG hE hT hK hP hD hS hl
      · refine lv_tableIn (off := 406) (tgt := 446) hx hb dL_law_40 (by decide) (by decide) rfl (by decide) ?_
        exact lc_6 q r kB kR kT kU kL kN (fun _ => 0) (fun _ => 0) qo hlt C0 hG hE hT hK hP hD hS hl
      · refine lv_tableIn (off := 474) (tgt := 514) hx hb dL_law_40 (by decide) (by decide) rfl (by decide) ?_
        exact lc_7 q r kB kR kT kU kL kN (fun _ => 0) (fun _ => 0) qo hlt C0 hG hE hT hK hP hD hS hl
      · refine lv_tableIn (off := 499) (tgt := 539) hx hb dL_law_40 (by decide) (by decide) rfl (by decide) ?_
        exact lc_8 q r kB kR kT kU kL kN (fun _ => 0) (fun _ => 0) qo hlt C0 hG hE hT hK hP hD hS hl
      · refine lv_tableIn (off := 524) (tgt := 564) hx hb dL_law_40 (by decide) (by decide) rfl (by decide) ?_
        exact lc_9 q r kB kR kT kU kL kN (fun _ => 0) (fun _ => 0) qo hlt C0 hG hE hT hK hP hD hS hl
      · refine lv_tableIn (off := 537) (tgt := 577) hx hb dL_law_40 (by decide) (by decide) rfl (by decide) ?_
        exact lc_10 q r kB kR kT kU kL kN (fun _ => 0) (fun _ => 0) qo hlt C0 hG hE hT hK hP hD hS hl
      · refine lv_tableIn (off := 562) (tgt := 602) hx hb dL_law_40 (by decide) (by decide) rfl (by decide) ?_
        exact lc_11 q r kB kR kT kU kL kN (fun _ => 0) (fun _ => 0) qo hlt C0 hG hE hT hK hP hD hS hl
      · refine lv_tableIn (off := 587) (tgt := 627) hx hb dL_law_40 (by decide) (by decide) rfl (by decide) ?_
        exact lc_12 q r kB kR kT kU kL kN (fun _ => 0) (fun _ => 0) qo hlt C0 hG hE hT hK hP hD hS hl
      · refine lv_tableIn (off := 624) (tgt := 664) hx hb dL_law_40 (by decide) (by decide) rfl (by decide) ?_
        exact lc_13 q r kB kR kT kU kL kN (fun _ => 0) (fun _ => 0) qo hlt C0 hG hE hT hK hP hD hS hl
      · refine lv_tableIn (off := 649) (tgt := 689) hx hb dL_law_40 (by decide) (by decide) rfl (by decide) ?_
        exact lc_14 q r kB kR kT kU kL kN (fun _ => 0) (fun _ => 0) qo hlt C0 hG hE hT hK hP hD hS hl
      · refine lv_tableIn (off := 674) (tgt := 714) hx hb dL_law_40 (by decide) (by decide) rfl (by decide) ?_
        exact lc_15 q r kB kR kT kU kL kN (fun _ => 0) (fun _ => 0) qo hlt C0 hG hE hT hK hP hD hS hl
      · refine lv_tableIn (off := 743) (tgt := 783) hx hb dL_law_40 (by decide) (by decide) rfl (by decide) ?_
        exact lc_16 q r kB kR kT kU kL kN (fun _ => 0) (fun _ => 0) qo hlt C0 hG hE hT hK hP hD hS hl
      · refine lv_tableIn (off := 756) (tgt := 796) hx hb dL_law_40 (by decide) (by decide) rfl (by decide) ?_
        exact lc_17 q r kB kR kT kU kL kN (fun _ => 0) (fun _ => 0) qo hlt C0 hG hE hT hK hP hD hS hl
      · refine lv_tableIn (off := 793) (tgt := 833) hx hb dL_law_40 (by decide) (by decide) rfl (by decide) ?_
        exact lc_18 q r kB kR kT kU kL kN (fun _ => 0) (fun _ => 0) qo hlt C0 hG hE hT hK hP hD hS hl
      · refine lv_tableIn (off := 830) (tgt := 870) hx hb dL_law_40 (by decide) (by decide) rfl (by decide) ?_
        exact lc_19 q r kB kR kT kU kL kN (fun _ => 0) (fun _ => 0) qo hlt C0 hG hE hT hK hP hD hS hl
      · refine lv_tableIn (off := 867) (tgt := 907) hx hb dL_law_40 (by decide) (by decide) rfl (by decide) ?_
        exact lc_20 q r kB kR kT kU kL kN (fun _ => 0) (fun _ => 0) qo hlt C0 hG hE hT hK hP hD hS hl
      · refine lv_tableIn (off := 904) (tgt := 944) hx hb dL_law_40 (by decide) (by decide) rfl (by decide) ?_
        exact lc_21 q r kB kR kT kU kL kN (fun _ => 0) (fun _ => 0) qo hlt C0 hG hE hT hK hP hD hS hl
      · refine lv_tableIn (off := 941) (tgt := 981) hx hb dL_law_40 (by decide) (by decide) rfl (by decide) ?_
        exact lc_22 q r kB kR kT kU kL kN (fun _ => 0) (fun _ => 0) qo hlt C0 hG hE hT hK hP hD hS hl
      · refine lv_tableIn (off := 978) (tgt := 1018) hx hb dL_law_40 (by decide) (by decide) rfl (by decide) ?_
        exact lc_23 q r kB kR kT kU kL kN (fun _ => 0) (fun _ => 0) qo hlt C0 hG hE hT hK hP hD hS hl
      · refine lv_tableIn (off := 1003) (tgt := 1043) hx hb dL_law_40 (by decide) (by decide) rfl (by decide) ?_
        exact lc_24 q r kB kR kT kU kL kN (fun _ => 0) (fun _ => 0) qo hlt C0 hG hE hT hK hP hD hS hl
      · refine lv_tableIn (off := 1040) (tgt := 1080) hx hb dL_law_40 (by decide) (by decide) rfl (by decide) ?_
        exact lc_25 q r kB kR kT kU kL kN (fun _ => 0) (fun _ => 0) qo hlt C0 hG hE hT hK hP hD hS hl
      · refine lv_tableIn (off := 1093) (tgt := 1133) hx hb dL_law_40 (by decide) (by decide) rfl (by decide) ?_
        exact lc_26 q r kB kR kT kU kL kN (fun _ => 0) (fun _ => 0) qo hlt C0 hG hE hT hK hP hD hS hl
      · refine lv_tableIn (off := 1118) (tgt := 1158) hx hb dL_law_40 (by decide) (by decide) rfl (by decide) ?_
        exact lc_27 q r kB kR kT kU kL kN (fun _ => 0) (fun _ => 0) qo hlt C0 hG hE hT hK hP hD hS hl
      · refine lv_tableIn (off := 1131) (tgt := 1171) hx hb dL_law_40 (by decide) (by decide) rfl (by decide) ?_
        exact lc_28 q r kB kR kT kU kL kN (fun _ => 0) (fun _ => 0) qo hlt C0 hG hE hT hK hP hD hS hl
      · refine lv_tableIn (off := 1156) (tgt := 1196) hx hb dL_law_40 (by decide) (by decide) rfl (by decide) ?_
        exact lc_29 q r kB kR kT kU kL kN (fun _ => 0) (fun _ => 0) qo hlt C0 hG hE hT hK hP hD hS hl
      · refine lv_tableIn (off := 1193) (tgt := 1233) hx hb dL_law_40 (by decide) (by decide) rfl (by decide) ?_
        exact lc_30 q r kB kR kT kU kL kN (fun _ => 0) (fun _ => 0) qo hlt C0 hG hE hT hK hP hD hS hl
      · refine lv_tableIn (off := 1230) (tgt := 1270) hx hb dL_law_40 (by decide) (by decide) rfl (by decide) ?_
        exact lc_31 q r kB kR kT kU kL kN (fun _ => 0) (fun _ => 0) qo hlt C0 hG hE hT hK hP hD hS hl
      · refine lv_tableIn (off := 1255) (tgt := 1295) hx hb dL_law_40 (by decide) (by decide) rfl (by decide) ?_
        exact lc_32 q r kB kR kT kU kL kN (fun _ => 0) (fun _ => 0) qo hlt C0 hG hE hT hK hP hD hS hl
      · refine lv_tableIn (off := 1280) (tgt := 1320) hx hb dL_law_40 (by decide) (by decide) rfl (by decide) ?_
        exact lc_33 q r kB kR kT kU kL kN (fun _ => 0) (fun _ => 0) qo hlt C0 hG hE hT hK hP hD hS hl
      · refine lv_tableIn (off := 1353) (tgt := 1393) hx hb dL_law_40 (by decide) (by decide) rfl (by decide) ?_
        exact lc_34 q r kB kR kT kU kL kN (fun _ => 0) (fun _ => 0) qo hlt C0 hG hE hT hK hP hD hS hl
      · refine lv_tableIn (off := 1402) (tgt := 1442) hx hb dL_law_40 (by decide) (by decide) rfl (by decide) ?_
        exact lc_35 q r kB kR kT kU kL kN (fun _ => 0) (fun _ => 0) qo hlt C0 hG hE hT hK hP hD hS hl
      · refine lv_tableIn (off := 1439) (tgt := 1479) hx hb dL_law_40 (by decide) (by decide) rfl (by decide) ?_
        exact lc_36 q r kB kR kT kU kL kN (fun _ => 0) (fun _ => 0) qo hlt C0 hG hE hT hK hP hD hS hl
      · refine lv_tableIn (off := 1476) (tgt := 1516) hx hb dL_law_40 (by decide) (by decide) rfl (by decide) ?_
        exact lc_37 q r kB kR kT kU kL kN (fun _ => 0) (fun _ => 0) qo hlt C0 hG hE hT hK hP hD hS hl
      · refine lv_tableIn (off := 1501) (tgt := 1541) hx hb dL_law_40 (by decide) (by decide) rfl (by decide) ?_
        exact lc_38 q r kB kR kT kU kL kN (fun _ => 0) (fun _ => 0) qo hlt C0 hG hE hT hK hP hD hS hl
      · refine lv_tableIn (off := 1538) (tgt := 1578) hx hb dL_law_40 (by decide) (by decide) rfl (by decide) ?_
        exact lc_39 q r kB kR kT kU kL kN (fun _ => 0) (fun _ => 0) qo hlt C0 hG hE hT hK hP hD hS hl
      · refine lv_tableIn (off := 1551) (tgt := 1591) hx hb dL_law_40 (by decide) (by decide) rfl (by decide) ?_
        exact lc_40 q r kB kR kT kU kL kN (fun _ => 0) (fun _ => 0) qo hlt C0 hG hE hT hK hP hD hS hl
      · refine lv_tableIn (off := 1564) (tgt := 1604) hx hb dL_law_40 (by decide) (by decide) rfl (by decide) ?_
        exact lc_41 q r kB kR kT kU kL kN (fun _ => 0) (fun _ => 0) qo hlt C0 hG hE hT hK hP hD hS hl
    rcases Nat.lt_or_ge j 42 with hj2 | hj2
    · exact key j hj2
    · refine lv_tableOut (tgt := 1629) hx hb dL_law_40 (Or.inr (by rw [nI_toInt (by omega)]; omega)) (by decide) ?_
      exact lc_exit C0 hS (by decide) (by decide) ls (lv_sub hl [0, 4] rfl)
  · refine lv_topi (fun v_1 e_1 => ?_)
    refine lv_icmp_gt (tgt := 1635) hx hb dL_law_30 (by decide) (fun _ => ?_) (fun c9 => absurd ?_ c9)
    · refine lv_iconst (v := 1) hx hb dL_law_1635 (by decide) ?_
      refine va_forget (fun q hq => hS.2.2 q hq) ?_
      refine W.widen (k := 600002) (n := 7302232) (by decide) (by decide) ?_
      exact lw_ret hx hb hr hlocks dL_law_1636
    · rw [e_1]
      rcases (show L = 0 ∨ L = 1 ∨ L = 2 ∨ L = 3 ∨ L = 4 ∨ L = 5 by omega) with rfl | rfl | rfl | rfl | rfl | rfl <;> decide
