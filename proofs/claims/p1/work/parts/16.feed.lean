set_option maxRecDepth 20000 in
theorem dX11_feed_0 : decode cX11_feed 0 = .ok (.iload_n 1, 1) := by decide +kernel
set_option maxRecDepth 20000 in
theorem dX11_feed_1 : decode cX11_feed 1 = .ok (.invokestatic 106, 3) := by decide +kernel
set_option maxRecDepth 20000 in
theorem dX11_feed_4 : decode cX11_feed 4 = .ok (.iload_n 2, 1) := by decide +kernel
set_option maxRecDepth 20000 in
theorem dX11_feed_5 : decode cX11_feed 5 = .ok (.invokestatic 106, 3) := by decide +kernel
set_option maxRecDepth 20000 in
theorem dX11_feed_8 : decode cX11_feed 8 = .ok (.iadd, 1) := by decide +kernel
set_option maxRecDepth 20000 in
theorem dX11_feed_9 : decode cX11_feed 9 = .ok (.iload_n 3, 1) := by decide +kernel
set_option maxRecDepth 20000 in
theorem dX11_feed_10 : decode cX11_feed 10 = .ok (.invokestatic 106, 3) := by decide +kernel
set_option maxRecDepth 20000 in
theorem dX11_feed_13 : decode cX11_feed 13 = .ok (.iadd, 1) := by decide +kernel
set_option maxRecDepth 20000 in
theorem dX11_feed_14 : decode cX11_feed 14 = .ok (.iload 4, 2) := by decide +kernel
set_option maxRecDepth 20000 in
theorem dX11_feed_16 : decode cX11_feed 16 = .ok (.invokestatic 106, 3) := by decide +kernel
set_option maxRecDepth 20000 in
theorem dX11_feed_19 : decode cX11_feed 19 = .ok (.iadd, 1) := by decide +kernel
set_option maxRecDepth 20000 in
theorem dX11_feed_20 : decode cX11_feed 20 = .ok (.iload 5, 2) := by decide +kernel
set_option maxRecDepth 20000 in
theorem dX11_feed_22 : decode cX11_feed 22 = .ok (.invokestatic 106, 3) := by decide +kernel
set_option maxRecDepth 20000 in
theorem dX11_feed_25 : decode cX11_feed 25 = .ok (.iadd, 1) := by decide +kernel
set_option maxRecDepth 20000 in
theorem dX11_feed_26 : decode cX11_feed 26 = .ok (.istore 6, 2) := by decide +kernel
set_option maxRecDepth 20000 in
theorem dX11_feed_28 : decode cX11_feed 28 = .ok (.aload_n 0, 1) := by decide +kernel
set_option maxRecDepth 20000 in
theorem dX11_feed_29 : decode cX11_feed 29 = .ok (.getfield 10, 3) := by decide +kernel
set_option maxRecDepth 20000 in
theorem dX11_feed_32 : decode cX11_feed 32 = .ok (.getfield 110, 3) := by decide +kernel
set_option maxRecDepth 20000 in
theorem dX11_feed_35 : decode cX11_feed 35 = .ok (.iload 6, 2) := by decide +kernel
set_option maxRecDepth 20000 in
theorem dX11_feed_37 : decode cX11_feed 37 = .ok (.iadd, 1) := by decide +kernel
set_option maxRecDepth 20000 in
theorem dX11_feed_38 : decode cX11_feed 38 = .ok (.sipush 240, 3) := by decide +kernel
set_option maxRecDepth 20000 in
theorem dX11_feed_41 : decode cX11_feed 41 = .ok (.if_icmp .le 5, 3) := by decide +kernel
set_option maxRecDepth 20000 in
theorem dX11_feed_46 : decode cX11_feed 46 = .ok (.aload_n 0, 1) := by decide +kernel
set_option maxRecDepth 20000 in
theorem dX11_feed_47 : decode cX11_feed 47 = .ok (.getfield 10, 3) := by decide +kernel
set_option maxRecDepth 20000 in
theorem dX11_feed_50 : decode cX11_feed 50 = .ok (.iload_n 1, 1) := by decide +kernel
set_option maxRecDepth 20000 in
theorem dX11_feed_51 : decode cX11_feed 51 = .ok (.invokevirtual 113, 3) := by decide +kernel
set_option maxRecDepth 20000 in
theorem dX11_feed_54 : decode cX11_feed 54 = .ok (.aload_n 0, 1) := by decide +kernel
set_option maxRecDepth 20000 in
theorem dX11_feed_55 : decode cX11_feed 55 = .ok (.getfield 10, 3) := by decide +kernel
set_option maxRecDepth 20000 in
theorem dX11_feed_58 : decode cX11_feed 58 = .ok (.iload_n 2, 1) := by decide +kernel
set_option maxRecDepth 20000 in
theorem dX11_feed_59 : decode cX11_feed 59 = .ok (.invokevirtual 113, 3) := by decide +kernel
set_option maxRecDepth 20000 in
theorem dX11_feed_62 : decode cX11_feed 62 = .ok (.aload_n 0, 1) := by decide +kernel
set_option maxRecDepth 20000 in
theorem dX11_feed_63 : decode cX11_feed 63 = .ok (.getfield 10, 3) := by decide +kernel
set_option maxRecDepth 20000 in
theorem dX11_feed_66 : decode cX11_feed 66 = .ok (.iload_n 3, 1) := by decide +kernel
set_option maxRecDepth 20000 in
theorem dX11_feed_67 : decode cX11_feed 67 = .ok (.invokevirtual 113, 3) := by decide +kernel
set_option maxRecDepth 20000 in
theorem dX11_feed_70 : decode cX11_feed 70 = .ok (.aload_n 0, 1) := by decide +kernel
set_option maxRecDepth 20000 in
theorem dX11_feed_71 : decode cX11_feed 71 = .ok (.getfield 10, 3) := by decide +kernel
set_option maxRecDepth 20000 in
theorem dX11_feed_74 : decode cX11_feed 74 = .ok (.iload 4, 2) := by decide +kernel
set_option maxRecDepth 20000 in
theorem dX11_feed_76 : decode cX11_feed 76 = .ok (.invokevirtual 113, 3) := by decide +kernel
set_option maxRecDepth 20000 in
theorem dX11_feed_79 : decode cX11_feed 79 = .ok (.aload_n 0, 1) := by decide +kernel
set_option maxRecDepth 20000 in
theorem dX11_feed_80 : decode cX11_feed 80 = .ok (.getfield 10, 3) := by decide +kernel
set_option maxRecDepth 20000 in
theorem dX11_feed_83 : decode cX11_feed 83 = .ok (.iload 5, 2) := by decide +kernel
set_option maxRecDepth 20000 in
theorem dX11_feed_85 : decode cX11_feed 85 = .ok (.invokevirtual 113, 3) := by decide +kernel
set_option maxRecDepth 20000 in
theorem dX11_feed_88 : decode cX11_feed 88 = .ok (.aload_n 0, 1) := by decide +kernel
set_option maxRecDepth 20000 in
theorem dX11_feed_89 : decode cX11_feed 89 = .ok (.getfield 10, 3) := by decide +kernel
set_option maxRecDepth 20000 in
theorem dX11_feed_92 : decode cX11_feed 92 = .ok (.getfield 110, 3) := by decide +kernel
set_option maxRecDepth 20000 in
theorem dX11_feed_95 : decode cX11_feed 95 = .ok (.ireturn, 1) := by decide +kernel
set_option maxRecDepth 20000 in
theorem dX12_feed_0 : decode cX12_feed 0 = .ok (.aload_n 0, 1) := by decide +kernel
set_option maxRecDepth 20000 in
theorem dX12_feed_1 : decode cX12_feed 1 = .ok (.iconst 0, 1) := by decide +kernel
set_option maxRecDepth 20000 in
theorem dX12_feed_2 : decode cX12_feed 2 = .ok (.putfield 90, 3) := by decide +kernel
set_option maxRecDepth 20000 in
theorem dX12_feed_5 : decode cX12_feed 5 = .ok (.aload_n 0, 1) := by decide +kernel
set_option maxRecDepth 20000 in
theorem dX12_feed_6 : decode cX12_feed 6 = .ok (.getfield 103, 3) := by decide +kernel
set_option maxRecDepth 20000 in
theorem dX12_feed_9 : decode cX12_feed 9 = .ok (.iload_n 1, 1) := by decide +kernel
set_option maxRecDepth 20000 in
theorem dX12_feed_10 : decode cX12_feed 10 = .ok (.invokestatic 105, 3) := by decide +kernel
set_option maxRecDepth 20000 in
theorem dX12_feed_13 : decode cX12_feed 13 = .ok (.iadd, 1) := by decide +kernel
set_option maxRecDepth 20000 in
theorem dX12_feed_14 : decode cX12_feed 14 = .ok (.iload_n 2, 1) := by decide +kernel
set_option maxRecDepth 20000 in
theorem dX12_feed_15 : decode cX12_feed 15 = .ok (.invokestatic 105, 3) := by decide +kernel
set_option maxRecDepth 20000 in
theorem dX12_feed_18 : decode cX12_feed 18 = .ok (.iadd, 1) := by decide +kernel
set_option maxRecDepth 20000 in
theorem dX12_feed_19 : decode cX12_feed 19 = .ok (.iload_n 3, 1) := by decide +kernel
set_option maxRecDepth 20000 in
theorem dX12_feed_20 : decode cX12_feed 20 = .ok (.invokestatic 105, 3) := by decide +kernel
set_option maxRecDepth 20000 in
theorem dX12_feed_23 : decode cX12_feed 23 = .ok (.iadd, 1) := by decide +kernel
set_option maxRecDepth 20000 in
theorem dX12_feed_24 : decode cX12_feed 24 = .ok (.iload 4, 2) := by decide +kernel
set_option maxRecDepth 20000 in
theorem dX12_feed_26 : decode cX12_feed 26 = .ok (.invokestatic 105, 3) := by decide +kernel
set_option maxRecDepth 20000 in
theorem dX12_feed_29 : decode cX12_feed 29 = .ok (.iadd, 1) := by decide +kernel
set_option maxRecDepth 20000 in
theorem dX12_feed_30 : decode cX12_feed 30 = .ok (.iload 5, 2) := by decide +kernel
set_option maxRecDepth 20000 in
theorem dX12_feed_32 : decode cX12_feed 32 = .ok (.invokestatic 105, 3) := by decide +kernel
set_option maxRecDepth 20000 in
theorem dX12_feed_35 : decode cX12_feed 35 = .ok (.iadd, 1) := by decide +kernel
set_option maxRecDepth 20000 in
theorem dX12_feed_36 : decode cX12_feed 36 = .ok (.sipush 240, 3) := by decide +kernel
set_option maxRecDepth 20000 in
theorem dX12_feed_39 : decode cX12_feed 39 = .ok (.if_icmp .le 5, 3) := by decide +kernel
set_option maxRecDepth 20000 in
theorem dX12_feed_44 : decode cX12_feed 44 = .ok (.aload_n 0, 1) := by decide +kernel
set_option maxRecDepth 20000 in
theorem dX12_feed_45 : decode cX12_feed 45 = .ok (.iload_n 1, 1) := by decide +kernel
set_option maxRecDepth 20000 in
theorem dX12_feed_46 : decode cX12_feed 46 = .ok (.invokevirtual 109, 3) := by decide +kernel
set_option maxRecDepth 20000 in
theorem dX12_feed_49 : decode cX12_feed 49 = .ok (.aload_n 0, 1) := by decide +kernel
set_option maxRecDepth 20000 in
theorem dX12_feed_50 : decode cX12_feed 50 = .ok (.iload_n 2, 1) := by decide +kernel
set_option maxRecDepth 20000 in
theorem dX12_feed_51 : decode cX12_feed 51 = .ok (.invokevirtual 109, 3) := by decide +kernel
set_option maxRecDepth 20000 in
theorem dX12_feed_54 : decode cX12_feed 54 = .ok (.aload_n 0, 1) := by decide +kernel
set_option maxRecDepth 20000 in
theorem dX12_feed_55 : decode cX12_feed 55 = .ok (.iload_n 3, 1) := by decide +kernel
set_option maxRecDepth 20000 in
theorem dX12_feed_56 : decode cX12_feed 56 = .ok (.invokevirtual 109, 3) := by decide +kernel
set_option maxRecDepth 20000 in
theorem dX12_feed_59 : decode cX12_feed 59 = .ok (.aload_n 0, 1) := by decide +kernel
set_option maxRecDepth 20000 in
theorem dX12_feed_60 : decode cX12_feed 60 = .ok (.iload 4, 2) := by decide +kernel
set_option maxRecDepth 20000 in
theorem dX12_feed_62 : decode cX12_feed 62 = .ok (.invokevirtual 109, 3) := by decide +kernel
set_option maxRecDepth 20000 in
theorem dX12_feed_65 : decode cX12_feed 65 = .ok (.aload_n 0, 1) := by decide +kernel
set_option maxRecDepth 20000 in
theorem dX12_feed_66 : decode cX12_feed 66 = .ok (.iload 5, 2) := by decide +kernel
set_option maxRecDepth 20000 in
theorem dX12_feed_68 : decode cX12_feed 68 = .ok (.invokevirtual 109, 3) := by decide +kernel
set_option maxRecDepth 20000 in
theorem dX12_feed_71 : decode cX12_feed 71 = .ok (.aload_n 0, 1) := by decide +kernel
set_option maxRecDepth 20000 in
theorem dX12_feed_72 : decode cX12_feed 72 = .ok (.getfield 103, 3) := by decide +kernel
set_option maxRecDepth 20000 in
theorem dX12_feed_75 : decode cX12_feed 75 = .ok (.ireturn, 1) := by decide +kernel
def vs_f_X11_feed : List Cond := .code yX11_feed cX11_feed 7 (some .int) :: ([.initialized RX8, .static yX8_bytesOf, .code yX8_bytesOf cX8_bytesOf 3 (some .int), .fieldLink RX11 10 "WallChapels" "tape" "LWallChapels$Tape;", .instanceMethod yX8_append, .selects RX8 yX8_append yX8_append, .fieldLink RX8 15 "WallChapels$Tape" "length" "I", .fieldLink RX8 9 "WallChapels$Tape" "bytes" "[I", .code yX8_append cX8_append 4 none] ++ (u_ws RX11 TX11 17 ++ (u_ws RX8 TX8 4)))
theorem vs_f_X11_feed_uX11 : ∀ w ∈ u_ws RX11 TX11 17, w ∈ vs_f_X11_feed := fun _ h => List.mem_cons_of_mem _ (List.mem_append_right _ (List.mem_append_left _ h))
theorem vs_f_X11_feed_uX8 : ∀ w ∈ u_ws RX8 TX8 4, w ∈ vs_f_X11_feed := fun _ h => List.mem_cons_of_mem _ (List.mem_append_right _ (List.mem_append_right _ (h)))
set_option maxRecDepth 20000 in
theorem g_f_X11_feed_f_X8_bytesOf : GoodIn vs_f_X11_feed vs_f_X8_bytesOf := goodIn_r _ [3] (by decide +kernel) (by decide +kernel)
set_option maxRecDepth 20000 in
theorem g_f_X11_feed_f_X8_append : GoodIn vs_f_X11_feed vs_f_X8_append := goodIn_r _ [9, 7, 8, 27, 28, 29, 30] (by decide +kernel) (by decide +kernel)
set_option maxHeartbeats 4000000 in
set_option maxRecDepth 100000 in
theorem f_X11_feed (l : Launch) (dC : Nat → ClassId) (dI : Nat → Nat → Nat) (sz : Nat) (q : Nat → Nat) (kB : ClassId) (fB : Nat → Int32) (p0 : Int32) (p1 : Int32) (p2 : Int32) (p3 : Int32) (p4 : Int32) : Met l yX11_feed vs_f_X11_feed ({ frames := 1, cells := 0, slots := 0, locals := 23 }) (va_Pc [.ref (q 15), .int p0, .int p1, .int p2, .int p3, .int p4] (cW dC dI [((q 15), .inr (11, xF q 0 1)), ((q 0), .inr (8, [.ref (q 16), .int 0, .int 0, .int 0])), ((q 16), .inl (kB, 240, .inl fB))] [(kB, .int)] sz)) (va_Qi (fun (r : Int32) (_ : Unit) => r = nI (cA p0 + cA p1 + cA p2 + cA p3 + cA p4)) (fun (_ : Unit) (t : State) => True) (va_A [((q 15), .inr (11, xF q 0 1)), ((q 0), .inr (8, [.ref (q 16), .int 0, .int 0, .int 0])), ((q 16), .inl (kB, 240, .inl fB))] sz)) 0 0 (va_A [((q 15), .inr (11, xF q 0 1)), ((q 0), .inr (8, [.ref (q 16), .int 0, .int 0, .int 0])), ((q 16), .inl (kB, 240, .inl fB))] sz) := by
  refine Met.ofW (cc := cX11_feed) (maxL := 7) (ret := (some .int)) (by decide) rfl ?_
  intro p e s m args below meth c s₁ B hml hv
  obtain ⟨rfl, hsz, hP, hK, hD0, hG⟩ := hv
  have hx := B.exec
  have hb := B.bytes
  have hr := B.returns
  have hts := atoms_spec (ws := vs_f_X11_feed) B.pre
  have hown : s.vm.findClass RX11 = some m.cls := findClass_of_methodNamed B.named
  have hlocks := B.notSynchronized
  have hiX11 : ∀ w ∈ u_ws RX11 TX11 17, w ∈ vs_f_X11_feed := vs_f_X11_feed_uX11
  have hiX8 : ∀ w ∈ u_ws RX8 TX8 4, w ∈ vs_f_X11_feed := vs_f_X11_feed_uX8
  subst hsz
  have hD := hD0.self (sz := s.heap.size)
  generalize hAe : va_A [((q 15), .inr (11, xF q 0 1)), ((q 0), .inr (8, [.ref (q 16), .int 0, .int 0, .int 0])), ((q 16), .inl (kB, 240, .inl fB))] s.heap.size = A at hD ⊢
  have hA : ∀ q : Nat, s.heap.size ≤ q → A q := fun q h => by rw [← hAe]; exact Or.inr h
  have hS : va_S A s.heap s.heap [] := va_S.rf
  have hP : va_P (dC, dI) vwCl [((q 15), .inr (11, xF q 0 1)), ((q 0), .inr (8, [.ref (q 16), .int 0, .int 0, .int 0])), ((q 16), .inl (kB, 240, .inl fB))] s.heap := hP
  have hl := lv_entry ([.ref (q 15), .int p0, .int p1, .int p2, .int p3, .int p4]) (n := 7) (Nat.le_of_ble_eq_true rfl)
  rw [lg_entry_eq]
  generalize (lg_sl ([.ref (q 15), .int p0, .int p1, .int p2, .int p3, .int p4]) ++ List.replicate (7 - (lg_sl ([.ref (q 15), .int p0, .int p1, .int p2, .int p3, .int p4])).length) Slot.unset).toArray = ls at hl ⊢
  have hl : lv_has ls 7 [(0, .ref (q 15)), (1, .int p0), (2, .int p1), (3, .int p2), (4, .int p3), (5, .int p4)] := hl
  refine lv_iload_n hx hb dX11_feed_0 rfl (lv_at hl 1 rfl) ?_
  have hPc := hP.sub (ws' := []) [] rfl
  have hDc := hD.sub (ws' := []) [] (by decide) rfl
  have hKc := hK.sub (tys' := []) [] rfl
  have hFc := va_free (wc := []) hD hS hA [] rfl
  refine va_calli (va_runSN (As := [.int p0]) (rest := []) ⟨hx, hb, hml, hown, hts⟩ (f_X8_bytesOf l dC dI s.heap.size p0) ⟨va_cnB 1 hts g_f_X11_feed_f_X8_bytesOf rfl rfl rfl (gx_n hG 59 rfl) (hts (.initialized RX8) (by decide +kernel)) (by decide +kernel) ⟨Nat.le_of_ble_eq_true rfl, Nat.le_of_ble_eq_true rfl⟩, (hts (.static yX8_bytesOf) (by decide +kernel)), trivial⟩ ⟨cW_blind, fun U hU hW => ⟨rfl, cW_use hU hW hPc hKc hDc hG⟩⟩ rfl rfl hl.1 rfl (lv_room (Nat.le_of_ble_eq_true rfl)) dX11_feed_1 ⟨Nat.le_of_ble_eq_true rfl, Nat.le_of_ble_eq_true rfl⟩) hS (fun q _ h => hFc q h) hFc (fun r_1 u t H1 locs ht hvm hw hB hz1 hk1 hS => ?_)
  obtain ⟨hP, hD⟩ := va_join (wr := [((q 15), .inr (11, xF q 0 1)), ((q 0), .inr (8, [.ref (q 16), .int 0, .int 0, .int 0])), ((q 16), .inl (kB, 240, .inl fB))]) (w1 := []) hP hD [] [0, 1, 2] rfl rfl (by decide) (by decide) hk1 hFc (va_P_nil H1) va_D_nil
  generalize H1 = H at hP hS ⊢
  have hP : va_P (dC, dI) vwCl [((q 15), .inr (11, xF q 0 1)), ((q 0), .inr (8, [.ref (q 16), .int 0, .int 0, .int 0])), ((q 16), .inl (kB, 240, .inl fB))] H := hP
  have hD : va_D A [((q 15), .inr (11, xF q 0 1)), ((q 0), .inr (8, [.ref (q 16), .int 0, .int 0, .int 0])), ((q 16), .inl (kB, 240, .inl fB))] := hD
  refine W.widen (k := 0) (n := 0) (Nat.le_of_ble_eq_true rfl) (Nat.le_of_ble_eq_true rfl) ?_
  obtain rfl : r_1 = nI (cA p0) := hw
  refine lv_iload_n hx hb dX11_feed_4 rfl (lv_at hl 2 rfl) ?_
  have hPc := hP.sub (ws' := []) [] rfl
  have hDc := hD.sub (ws' := []) [] (by decide) rfl
  have hKc := hK.sub (tys' := []) [] rfl
  have hFc := va_free (wc := []) hD hS hA [] rfl
  refine va_calli (va_runSN (As := [.int p1]) (rest := [.int (nI (cA p0))]) ⟨hx, hb, hml, hown, hts⟩ (f_X8_bytesOf l dC dI H.size p1) ⟨va_cnB 1 hts g_f_X11_feed_f_X8_bytesOf rfl rfl rfl (gx_n hG 59 rfl) (hts (.initialized RX8) (by decide +kernel)) (by decide +kernel) ⟨Nat.le_of_ble_eq_true rfl, Nat.le_of_ble_eq_true rfl⟩, (hts (.static yX8_bytesOf) (by decide +kernel)), trivial⟩ ⟨cW_blind, fun U hU hW => ⟨rfl, cW_use hU hW hPc hKc hDc hG⟩⟩ rfl rfl hl.1 rfl (lv_room (Nat.le_of_ble_eq_true rfl)) dX11_feed_5 ⟨Nat.le_of_ble_eq_true rfl, Nat.le_of_ble_eq_true rfl⟩) hS (fun q _ h => hFc q h) hFc (fun r_2 u t H1 locs ht hvm hw hB hz1 hk1 hS => ?_)
  obtain ⟨hP, hD⟩ := va_join (wr := [((q 15), .inr (11, xF q 0 1)), ((q 0), .inr (8, [.ref (q 16), .int 0, .int 0, .int 0])), ((q 16), .inl (kB, 240, .inl fB))]) (w1 := []) hP hD [] [0, 1, 2] rfl rfl (by decide) (by decide) hk1 hFc (va_P_nil H1) va_D_nil
  generalize H1 = H at hP hS ⊢
  have hP : va_P (dC, dI) vwCl [((q 15), .inr (11, xF q 0 1)), ((q 0), .inr (8, [.ref (q 16), .int 0, .int 0, .int 0])), ((q 16), .inl (kB, 240, .inl fB))] H := hP
  have hD : va_D A [((q 15), .inr (11, xF q 0 1)), ((q 0), .inr (8, [.ref (q 16), .int 0, .int 0, .int 0])), ((q 16), .inl (kB, 240, .inl fB))] := hD
  refine W.widen (k := 0) (n := 0) (Nat.le_of_ble_eq_true rfl) (Nat.le_of_ble_eq_true rfl) ?_
  obtain rfl : r_2 = nI (cA p1) := hw
  refine lv_iadd hx hb dX11_feed_8 ?_
  refine lv_topi (fun v_3 e_3 => ?_)
  obtain rfl : v_3 = nI ((cA p0) + (cA p1)) := by rw [e_3]; exact nI_add (cA p0) (cA p1)
  refine lv_iload_n hx hb dX11_feed_9 rfl (lv_at hl 3 rfl) ?_
  have hPc := hP.sub (ws' := []) [] rfl
  have hDc := hD.sub (ws' := []) [] (by decide) rfl
  have hKc := hK.sub (tys' := []) [] rfl
  have hFc := va_free (wc := []) hD hS hA [] rfl
  refine va_calli (va_runSN (As := [.int p2]) (rest := [.int (nI ((cA p0) + (cA p1)))]) ⟨hx, hb, hml, hown, hts⟩ (f_X8_bytesOf l dC dI H.size p2) ⟨va_cnB 1 hts g_f_X11_feed_f_X8_bytesOf rfl rfl rfl (gx_n hG 59 rfl) (hts (.initialized RX8) (by decide +kernel)) (by decide +kernel) ⟨Nat.le_of_ble_eq_true rfl, Nat.le_of_ble_eq_true rfl⟩, (hts (.static yX8_bytesOf) (by decide +kernel)), trivial⟩ ⟨cW_blind, fun U hU hW => ⟨rfl, cW_use hU hW hPc hKc hDc hG⟩⟩ rfl rfl hl.1 rfl (lv_room (Nat.le_of_ble_eq_true rfl)) dX11_feed_10 ⟨Nat.le_of_ble_eq_true rfl, Nat.le_of_ble_eq_true rfl⟩) hS (fun q _ h => hFc q h) hFc (fun r_4 u t H1 locs ht hvm hw hB hz1 hk1 hS => ?_)
  obtain ⟨hP, hD⟩ := va_join (wr := [((q 15), .inr (11, xF q 0 1)), ((q 0), .inr (8, [.ref (q 16), .int 0, .int 0, .int 0])), ((q 16), .inl (kB, 240, .inl fB))]) (w1 := []) hP hD [] [0, 1, 2] rfl rfl (by decide) (by decide) hk1 hFc (va_P_nil H1) va_D_nil
  generalize H1 = H at hP hS ⊢
  have hP : va_P (dC, dI) vwCl [((q 15), .inr (11, xF q 0 1)), ((q 0), .inr (8, [.ref (q 16), .int 0, .int 0, .int 0])), ((q 16), .inl (kB, 240, .inl fB))] H := hP
  have hD : va_D A [((q 15), .inr (11, xF q 0 1)), ((q 0), .inr (8, [.ref (q 16), .int 0, .int 0, .int 0])), ((q 16), .inl (kB, 240, .inl fB))] := hD
  refine W.widen (k := 0) (n := 0) (Nat.le_of_ble_eq_true rfl) (Nat.le_of_ble_eq_true rfl) ?_
  obtain rfl : r_4 = nI (cA p2) := hw
  refine lv_iadd hx hb dX11_feed_13 ?_
  refine lv_topi (fun v_5 e_5 => ?_)
  obtain rfl : v_5 = nI (((cA p0) + (cA p1)) + (cA p2)) := by rw [e_5]; exact nI_add ((cA p0) + (cA p1)) (cA p2)
  refine lv_iload hx hb dX11_feed_14 (lv_at hl 4 rfl) ?_
  have hPc := hP.sub (ws' := []) [] rfl
  have hDc := hD.sub (ws' := []) [] (by decide) rfl
  have hKc := hK.sub (tys' := []) [] rfl
  have hFc := va_free (wc := []) hD hS hA [] rfl
  refine va_calli (va_runSN (As := [.int p3]) (rest := [.int (nI (((cA p0) + (cA p1)) + (cA p2)))]) ⟨hx, hb, hml, hown, hts⟩ (f_X8_bytesOf l dC dI H.size p3) ⟨va_cnB 1 hts g_f_X11_feed_f_X8_bytesOf rfl rfl rfl (gx_n hG 59 rfl) (hts (.initialized RX8) (by decide +kernel)) (by decide +kernel) ⟨Nat.le_of_ble_eq_true rfl, Nat.le_of_ble_eq_true rfl⟩, (hts (.static yX8_bytesOf) (by decide +kernel)), trivial⟩ ⟨cW_blind, fun U hU hW => ⟨rfl, cW_use hU hW hPc hKc hDc hG⟩⟩ rfl rfl hl.1 rfl (lv_room (Nat.le_of_ble_eq_true rfl)) dX11_feed_16 ⟨Nat.le_of_ble_eq_true rfl, Nat.le_of_ble_eq_true rfl⟩) hS (fun q _ h => hFc q h) hFc (fun r_6 u t H1 locs ht hvm hw hB hz1 hk1 hS => ?_)
  obtain ⟨hP, hD⟩ := va_join (wr := [((q 15), .inr (11, xF q 0 1)), ((q 0), .inr (8, [.ref (q 16), .int 0, .int 0, .int 0])), ((q 16), .inl (kB, 240, .inl fB))]) (w1 := []) hP hD [] [0, 1, 2] rfl rfl (by decide) (by decide) hk1 hFc (va_P_nil H1) va_D_nil
  generalize H1 = H at hP hS ⊢
  have hP : va_P (dC, dI) vwCl [((q 15), .inr (11, xF q 0 1)), ((q 0), .inr (8, [.ref (q 16), .int 0, .int 0, .int 0])), ((q 16), .inl (kB, 240, .inl fB))] H := hP
  have hD : va_D A [((q 15), .inr (11, xF q 0 1)), ((q 0), .inr (8, [.ref (q 16), .int 0, .int 0, .int 0])), ((q 16), .inl (kB, 240, .inl fB))] := hD
  refine W.widen (k := 0) (n := 0) (Nat.le_of_ble_eq_true rfl) (Nat.le_of_ble_eq_true rfl) ?_
  obtain rfl : r_6 = nI (cA p3) := hw
  refine lv_iadd hx hb dX11_feed_19 ?_
  refine lv_topi (fun v_7 e_7 => ?_)
  obtain rfl : v_7 = nI ((((cA p0) + (cA p1)) + (cA p2)) + (cA p3)) := by rw [e_7]; exact nI_add (((cA p0) + (cA p1)) + (cA p2)) (cA p3)
  refine lv_iload hx hb dX11_feed_20 (lv_at hl 5 rfl) ?_
  have hPc := hP.sub (ws' := []) [] rfl
  have hDc := hD.sub (ws' := []) [] (by decide) rfl
  have hKc := hK.sub (tys' := []) [] rfl
  have hFc := va_free (wc := []) hD hS hA [] rfl
  refine va_calli (va_runSN (As := [.int p4]) (rest := [.int (nI ((((cA p0) + (cA p1)) + (cA p2)) + (cA p3)))]) ⟨hx, hb, hml, hown, hts⟩ (f_X8_bytesOf l dC dI H.size p4) ⟨va_cnB 1 hts g_f_X11_feed_f_X8_bytesOf rfl rfl rfl (gx_n hG 59 rfl) (hts (.initialized RX8) (by decide +kernel)) (by decide +kernel) ⟨Nat.le_of_ble_eq_true rfl, Nat.le_of_ble_eq_true rfl⟩, (hts (.static yX8_bytesOf) (by decide +kernel)), trivial⟩ ⟨cW_blind, fun U hU hW => ⟨rfl, cW_use hU hW hPc hKc hDc hG⟩⟩ rfl rfl hl.1 rfl (lv_room (Nat.le_of_ble_eq_true rfl)) dX11_feed_22 ⟨Nat.le_of_ble_eq_true rfl, Nat.le_of_ble_eq_true rfl⟩) hS (fun q _ h => hFc q h) hFc (fun r_8 u t H1 locs ht hvm hw hB hz1 hk1 hS => ?_)
  obtain ⟨hP, hD⟩ := va_join (wr := [((q 15), .inr (11, xF q 0 1)), ((q 0), .inr (8, [.ref (q 16), .int 0, .int 0, .int 0])), ((q 16), .inl (kB, 240, .inl fB))]) (w1 := []) hP hD [] [0, 1, 2] rfl rfl (by decide) (by decide) hk1 hFc (va_P_nil H1) va_D_nil
  generalize H1 = H at hP hS ⊢
  have hP : va_P (dC, dI) vwCl [((q 15), .inr (11, xF q 0 1)), ((q 0), .inr (8, [.ref (q 16), .int 0, .int 0, .int 0])), ((q 16), .inl (kB, 240, .inl fB))] H := hP
  have hD : va_D A [((q 15), .inr (11, xF q 0 1)), ((q 0), .inr (8, [.ref (q 16), .int 0, .int 0, .int 0])), ((q 16), .inl (kB, 240, .inl fB))] := hD
  refine W.widen (k := 0) (n := 0) (Nat.le_of_ble_eq_true rfl) (Nat.le_of_ble_eq_true rfl) ?_
  obtain rfl : r_8 = nI (cA p4) := hw
  refine lv_iadd hx hb dX11_feed_25 ?_
  refine lv_topi (fun v_9 e_9 => ?_)
  obtain rfl : v_9 = nI (((((cA p0) + (cA p1)) + (cA p2)) + (cA p3)) + (cA p4)) := by rw [e_9]; exact nI_add ((((cA p0) + (cA p1)) + (cA p2)) + (cA p3)) (cA p4)
  refine lv_istore (lv' := [(6, .int (nI (((((cA p0) + (cA p1)) + (cA p2)) + (cA p3)) + (cA p4)))), (0, .ref (q 15)), (1, .int p0), (2, .int p1), (3, .int p2), (4, .int p3), (5, .int p4)]) hx hb dX11_feed_26 hl (by decide) rfl (fun ls hl => ?_)
  refine lv_aload_n hx hb dX11_feed_28 rfl (lv_at hl 1 rfl) ?_
  refine va_get (D := (dC, dI)) (ci := 11) (v := .ref (q 0)) (C := RX11) (T := TX11) (N := 17) hx hb hts hiX11 hown hK hP 0 rfl rfl 0 (by decide) (hts (.fieldLink RX11 10 "WallChapels" "tape" "LWallChapels$Tape;") (by decide +kernel)) (fun _ h9 => h9) rfl dX11_feed_29 ?_
  refine va_getN (D := (dC, dI)) (ci := 8) (v := .int 0) (C := RX8) (T := TX8) (N := 4) hx hb hts hiX8 hown hK hP 1 rfl rfl 1 (by decide) (gx_u hG 1 rfl rfl) (fun _ h9 => h9) rfl dX11_feed_32 ?_
  refine lv_iload hx hb dX11_feed_35 (lv_at hl 0 rfl) ?_
  refine lv_iadd hx hb dX11_feed_37 ?_
  refine lv_topi (fun v_10 e_10 => ?_)
  obtain rfl : v_10 = nI (0 + (((((cA p0) + (cA p1)) + (cA p2)) + (cA p3)) + (cA p4))) := by rw [e_10]; exact nI_add 0 (((((cA p0) + (cA p1)) + (cA p2)) + (cA p3)) + (cA p4))
  refine lv_sipush (v := 240) hx hb dX11_feed_38 (by decide) ?_
  refine lv_icmp_le (tgt := 46) hx hb dX11_feed_41 (by decide) (fun _ => ?_) (fun c_11 => absurd (nI_le (a := (0 + (((((cA p0) + (cA p1)) + (cA p2)) + (cA p3)) + (cA p4)))) (b := 240) (by have := cA_le p0; have := cA_le p1; have := cA_le p2; have := cA_le p3; have := cA_le p4; omega) (by decide)) c_11)
  refine lv_aload_n hx hb dX11_feed_46 rfl (lv_at hl 1 rfl) ?_
  refine va_get (D := (dC, dI)) (ci := 11) (v := .ref (q 0)) (C := RX11) (T := TX11) (N := 17) hx hb hts hiX11 hown hK hP 0 rfl rfl 0 (by decide) (hts (.fieldLink RX11 10 "WallChapels" "tape" "LWallChapels$Tape;") (by decide +kernel)) (fun _ h9 => h9) rfl dX11_feed_47 ?_
  refine lv_iload_n hx hb dX11_feed_50 rfl (lv_at hl 2 rfl) ?_
  have hPc := hP.sub (ws' := [((q 0), .inr (8, [.ref (q 16), .int 0, .int 0, .int 0])), ((q 16), .inl (kB, 240, .inl fB))]) [1, 2] rfl
  have hDc := hD.sub (ws' := [((q 0), .inr (8, [.ref (q 16), .int 0, .int 0, .int 0])), ((q 16), .inl (kB, 240, .inl fB))]) [1, 2] (by decide) rfl
  have hKc := hK.sub (tys' := [(kB, .int)]) [0] rfl
  have hFc := va_free (wc := [((q 0), .inr (8, [.ref (q 16), .int 0, .int 0, .int 0])), ((q 16), .inl (kB, 240, .inl fB))]) hD hS hA [1, 2] rfl
  refine va_callv (va_runVN (As := [.int p0]) (rest := []) ⟨hx, hb, hml, hown, hts⟩ (f_X8_append l dC dI H.size q kB 0 fB p0 (by omega)) ⟨va_cnB 1 hts g_f_X11_feed_f_X8_append rfl rfl rfl (gx_n hG 60 rfl) (hts (.initialized RX8) (by decide +kernel)) (by decide +kernel) ⟨Nat.le_of_ble_eq_true rfl, Nat.le_of_ble_eq_true rfl⟩, (hts (.instanceMethod yX8_append) (by decide +kernel)), (hts (.selects RX8 yX8_append yX8_append) (by decide +kernel))⟩ ⟨cW_blind, va_recv hKc hPc (ci := 8) (q0 := 0) rfl rfl, fun U hU hW => ⟨rfl, cW_use hU hW hPc hKc hDc hG⟩⟩ rfl rfl hl.1 rfl (lv_room (Nat.le_of_ble_eq_true rfl)) dX11_feed_51 ⟨Nat.le_of_ble_eq_true rfl, Nat.le_of_ble_eq_true rfl⟩) hS (fun q _ h => hFc q h) hFc (fun u t H1 locs ht hvm hw hB hz1 hk1 hS => ?_)
  obtain ⟨f_12, hP1, hK1, hD1⟩ := hB
  rw [ht] at hP1
  have hK1 := va_K.moved hvm.symm hK1
  obtain ⟨hP, hD⟩ := va_join (wr := [((q 15), .inr (11, xF q 0 1))]) (w1 := [((q 0), .inr (8, [.ref (q 16), .int (nI (0 + cA p0)), .int 0, .int 0])), ((q 16), .inl (kB, 240, .inl f_12))]) hP hD [1, 2] [0] rfl rfl (by decide) (by decide) hk1 hFc hP1 hD1
  generalize H1 = H at hP hS ⊢
  have hP : va_P (dC, dI) vwCl [((q 15), .inr (11, xF q 0 1)), ((q 0), .inr (8, [.ref (q 16), .int (nI (0 + cA p0)), .int 0, .int 0])), ((q 16), .inl (kB, 240, .inl f_12))] H := hP
  have hD : va_D A [((q 15), .inr (11, xF q 0 1)), ((q 0), .inr (8, [.ref (q 16), .int (nI (0 + cA p0)), .int 0, .int 0])), ((q 16), .inl (kB, 240, .inl f_12))] := hD
  refine W.widen (k := 0) (n := 0) (Nat.le_of_ble_eq_true rfl) (Nat.le_of_ble_eq_true rfl) ?_
  refine lv_aload_n hx hb dX11_feed_54 rfl (lv_at hl 1 rfl) ?_
  refine va_get (D := (dC, dI)) (ci := 11) (v := .ref (q 0)) (C := RX11) (T := TX11) (N := 17) hx hb hts hiX11 hown hK hP 0 rfl rfl 0 (by decide) (hts (.fieldLink RX11 10 "WallChapels" "tape" "LWallChapels$Tape;") (by decide +kernel)) (fun _ h9 => h9) rfl dX11_feed_55 ?_
  refine lv_iload_n hx hb dX11_feed_58 rfl (lv_at hl 3 rfl) ?_
  have hPc := hP.sub (ws' := [((q 0), .inr (8, [.ref (q 16), .int (nI (0 + cA p0)), .int 0, .int 0])), ((q 16), .inl (kB, 240, .inl f_12))]) [1, 2] rfl
  have hDc := hD.sub (ws' := [((q 0), .inr (8, [.ref (q 16), .int (nI (0 + cA p0)), .int 0, .int 0])), ((q 16), .inl (kB, 240, .inl f_12))]) [1, 2] (by decide) rfl
  have hKc := hK.sub (tys' := [(kB, .int)]) [0] rfl
  have hFc := va_free (wc := [((q 0), .inr (8, [.ref (q 16), .int (nI (0 + cA p0)), .int 0, .int 0])), ((q 16), .inl (kB, 240, .inl f_12))]) hD hS hA [1, 2] rfl
  refine va_callv (va_runVN (As := [.int p1]) (rest := []) ⟨hx, hb, hml, hown, hts⟩ (f_X8_append l dC dI H.size q kB (0 + cA p0) f_12 p1 (by have := cA_le p0; omega)) ⟨va_cnB 1 hts g_f_X11_feed_f_X8_append rfl rfl rfl (gx_n hG 60 rfl) (hts (.initialized RX8) (by decide +kernel)) (by decide +kernel) ⟨Nat.le_of_ble_eq_true rfl, Nat.le_of_ble_eq_true rfl⟩, (hts (.instanceMethod yX8_append) (by decide +kernel)), (hts (.selects RX8 yX8_append yX8_append) (by decide +kernel))⟩ ⟨cW_blind, va_recv hKc hPc (ci := 8) (q0 := 0) rfl rfl, fun U hU hW => ⟨rfl, cW_use hU hW hPc hKc hDc hG⟩⟩ rfl rfl hl.1 rfl (lv_room (Nat.le_of_ble_eq_true rfl)) dX11_feed_59 ⟨Nat.le_of_ble_eq_true rfl, Nat.le_of_ble_eq_true rfl⟩) hS (fun q _ h => hFc q h) hFc (fun u t H1 locs ht hvm hw hB hz1 hk1 hS => ?_)
  obtain ⟨f_14, hP1, hK1, hD1⟩ := hB
  rw [ht] at hP1
  have hK1 := va_K.moved hvm.symm hK1
  obtain ⟨hP, hD⟩ := va_join (wr := [((q 15), .inr (11, xF q 0 1))]) (w1 := [((q 0), .inr (8, [.ref (q 16), .int (nI ((0 + cA p0) + cA p1)), .int 0, .int 0])), ((q 16), .inl (kB, 240, .inl f_14))]) hP hD [1, 2] [0] rfl rfl (by decide) (by decide) hk1 hFc hP1 hD1
  generalize H1 = H at hP hS ⊢
  have hP : va_P (dC, dI) vwCl [((q 15), .inr (11, xF q 0 1)), ((q 0), .inr (8, [.ref (q 16), .int (nI ((0 + cA p0) + cA p1)), .int 0, .int 0])), ((q 16), .inl (kB, 240, .inl f_14))] H := hP
  have hD : va_D A [((q 15), .inr (11, xF q 0 1)), ((q 0), .inr (8, [.ref (q 16), .int (nI ((0 + cA p0) + cA p1)), .int 0, .int 0])), ((q 16), .inl (kB, 240, .inl f_14))] := hD
  refine W.widen (k := 0) (n := 0) (Nat.le_of_ble_eq_true rfl) (Nat.le_of_ble_eq_true rfl) ?_
  refine lv_aload_n hx hb dX11_feed_62 rfl (lv_at hl 1 rfl) ?_
  refine va_get (D := (dC, dI)) (ci := 11) (v := .ref (q 0)) (C := RX11) (T := TX11) (N := 17) hx hb hts hiX11 hown hK hP 0 rfl rfl 0 (by decide) (hts (.fieldLink RX11 10 "WallChapels" "tape" "LWallChapels$Tape;") (by decide +kernel)) (fun _ h9 => h9) rfl dX11_feed_63 ?_
  refine lv_iload_n hx hb dX11_feed_66 rfl (lv_at hl 4 rfl) ?_
  have hPc := hP.sub (ws' := [((q 0), .inr (8, [.ref (q 16), .int (nI ((0 + cA p0) + cA p1)), .int 0, .int 0])), ((q 16), .inl (kB, 240, .inl f_14))]) [1, 2] rfl
  have hDc := hD.sub (ws' := [((q 0), .inr (8, [.ref (q 16), .int (nI ((0 + cA p0) + cA p1)), .int 0, .int 0])), ((q 16), .inl (kB, 240, .inl f_14))]) [1, 2] (by decide) rfl
  have hKc := hK.sub (tys' := [(kB, .int)]) [0] rfl
  have hFc := va_free (wc := [((q 0), .inr (8, [.ref (q 16), .int (nI ((0 + cA p0) + cA p1)), .int 0, .int 0])), ((q 16), .inl (kB, 240, .inl f_14))]) hD hS hA [1, 2] rfl
  refine va_callv (va_runVN (As := [.int p2]) (rest := []) ⟨hx, hb, hml, hown, hts⟩ (f_X8_append l dC dI H.size q kB ((0 + cA p0) + cA p1) f_14 p2 (by have := cA_le p0; have := cA_le p1; omega)) ⟨va_cnB 1 hts g_f_X11_feed_f_X8_append rfl rfl rfl (gx_n hG 60 rfl) (hts (.initialized RX8) (by decide +kernel)) (by decide +kernel) ⟨Nat.le_of_ble_eq_true rfl, Nat.le_of_ble_eq_true rfl⟩, (hts (.instanceMethod yX8_append) (by decide +kernel)), (hts (.selects RX8 yX8_append yX8_append) (by decide +kernel))⟩ ⟨cW_blind, va_recv hKc hPc (ci := 8) (q0 := 0) rfl rfl, fun U hU hW => ⟨rfl, cW_use hU hW hPc hKc hDc hG⟩⟩ rfl rfl hl.1 rfl (lv_room (Nat.le_of_ble_eq_true rfl)) dX11_feed_67 ⟨Nat.le_of_ble_eq_true rfl, Nat.le_of_ble_eq_true rfl⟩) hS (fun q _ h => hFc q h) hFc (fun u t H1 locs ht hvm hw hB hz1 hk1 hS => ?_)
  obtain ⟨f_16, hP1, hK1, hD1⟩ := hB
  rw [ht] at hP1
  have hK1 := va_K.moved hvm.symm hK1
  obtain ⟨hP, hD⟩ := va_join (wr := [((q 15), .inr (11, xF q 0 1))]) (w1 := [((q 0), .inr (8, [.ref (q 16), .int (nI (((0 + cA p0) + cA p1) + cA p2)), .int 0, .int 0])), ((q 16), .inl (kB, 240, .inl f_16))]) hP hD [1, 2] [0] rfl rfl (by decide) (by decide) hk1 hFc hP1 hD1
  generalize H1 = H at hP hS ⊢
  have hP : va_P (dC, dI) vwCl [((q 15), .inr (11, xF q 0 1)), ((q 0), .inr (8, [.ref (q 16), .int (nI (((0 + cA p0) + cA p1) + cA p2)), .int 0, .int 0])), ((q 16), .inl (kB, 240, .inl f_16))] H := hP
  have hD : va_D A [((q 15), .inr (11, xF q 0 1)), ((q 0), .inr (8, [.ref (q 16), .int (nI (((0 + cA p0) + cA p1) + cA p2)), .int 0, .int 0])), ((q 16), .inl (kB, 240, .inl f_16))] := hD
  refine W.widen (k := 0) (n := 0) (Nat.le_of_ble_eq_true rfl) (Nat.le_of_ble_eq_true rfl) ?_
  refine lv_aload_n hx hb dX11_feed_70 rfl (lv_at hl 1 rfl) ?_
  refine va_get (D := (dC, dI)) (ci := 11) (v := .ref (q 0)) (C := RX11) (T := TX11) (N := 17) hx hb hts hiX11 hown hK hP 0 rfl rfl 0 (by decide) (hts (.fieldLink RX11 10 "WallChapels" "tape" "LWallChapels$Tape;") (by decide +kernel)) (fun _ h9 => h9) rfl dX11_feed_71 ?_
  refine lv_iload hx hb dX11_feed_74 (lv_at hl 5 rfl) ?_
  have hPc := hP.sub (ws' := [((q 0), .inr (8, [.ref (q 16), .int (nI (((0 + cA p0) + cA p1) + cA p2)), .int 0, .int 0])), ((q 16), .inl (kB, 240, .inl f_16))]) [1, 2] rfl
  have hDc := hD.sub (ws' := [((q 0), .inr (8, [.ref (q 16), .int (nI (((0 + cA p0) + cA p1) + cA p2)), .int 0, .int 0])), ((q 16), .inl (kB, 240, .inl f_16))]) [1, 2] (by decide) rfl
  have hKc := hK.sub (tys' := [(kB, .int)]) [0] rfl
  have hFc := va_free (wc := [((q 0), .inr (8, [.ref (q 16), .int (nI (((0 + cA p0) + cA p1) + cA p2)), .int 0, .int 0])), ((q 16), .inl (kB, 240, .inl f_16))]) hD hS hA [1, 2] rfl
  refine va_callv (va_runVN (As := [.int p3]) (rest := []) ⟨hx, hb, hml, hown, hts⟩ (f_X8_append l dC dI H.size q kB (((0 + cA p0) + cA p1) + cA p2) f_16 p3 (by have := cA_le p0; have := cA_le p1; have := cA_le p2; omega)) ⟨va_cnB 1 hts g_f_X11_feed_f_X8_append rfl rfl rfl (gx_n hG 60 rfl) (hts (.initialized RX8) (by decide +kernel)) (by decide +kernel) ⟨Nat.le_of_ble_eq_true rfl, Nat.le_of_ble_eq_true rfl⟩, (hts (.instanceMethod yX8_append) (by decide +kernel)), (hts (.selects RX8 yX8_append yX8_append) (by decide +kernel))⟩ ⟨cW_blind, va_recv hKc hPc (ci := 8) (q0 := 0) rfl rfl, fun U hU hW => ⟨rfl, cW_use hU hW hPc hKc hDc hG⟩⟩ rfl rfl hl.1 rfl (lv_room (Nat.le_of_ble_eq_true rfl)) dX11_feed_76 ⟨Nat.le_of_ble_eq_true rfl, Nat.le_of_ble_eq_true rfl⟩) hS (fun q _ h => hFc q h) hFc (fun u t H1 locs ht hvm hw hB hz1 hk1 hS => ?_)
  obtain ⟨f_18, hP1, hK1, hD1⟩ := hB
  rw [ht] at hP1
  have hK1 := va_K.moved hvm.symm hK1
  obtain ⟨hP, hD⟩ := va_join (wr := [((q 15), .inr (11, xF q 0 1))]) (w1 := [((q 0), .inr (8, [.ref (q 16), .int (nI ((((0 + cA p0) + cA p1) + cA p2) + cA p3)), .int 0, .int 0])), ((q 16), .inl (kB, 240, .inl f_18))]) hP hD [1, 2] [0] rfl rfl (by decide) (by decide) hk1 hFc hP1 hD1
  generalize H1 = H at hP hS ⊢
  have hP : va_P (dC, dI) vwCl [((q 15), .inr (11, xF q 0 1)), ((q 0), .inr (8, [.ref (q 16), .int (nI ((((0 + cA p0) + cA p1) + cA p2) + cA p3)), .int 0, .int 0])), ((q 16), .inl (kB, 240, .inl f_18))] H := hP
  have hD : va_D A [((q 15), .inr (11, xF q 0 1)), ((q 0), .inr (8, [.ref (q 16), .int (nI ((((0 + cA p0) + cA p1) + cA p2) + cA p3)), .int 0, .int 0])), ((q 16), .inl (kB, 240, .inl f_18))] := hD
  refine W.widen (k := 0) (n := 0) (Nat.le_of_ble_eq_true rfl) (Nat.le_of_ble_eq_true rfl) ?_
  refine lv_aload_n hx hb dX11_feed_79 rfl (lv_at hl 1 rfl) ?_
  refine va_get (D := (dC, dI)) (ci := 11) (v := .ref (q 0)) (C := RX11) (T := TX11) (N := 17) hx hb hts hiX11 hown hK hP 0 rfl rfl 0 (by decide) (hts (.fieldLink RX11 10 "WallChapels" "tape" "LWallChapels$Tape;") (by decide +kernel)) (fun _ h9 => h9) rfl dX11_feed_80 ?_
  refine lv_iload hx hb dX11_feed_83 (lv_at hl 6 rfl) ?_
  have hPc := hP.sub (ws' := [((q 0), .inr (8, [.ref (q 16), .int (nI ((((0 + cA p0) + cA p1) + cA p2) + cA p3)), .int 0, .int 0])), ((q 16), .inl (kB, 240, .inl f_18))]) [1, 2] rfl
  have hDc := hD.sub (ws' := [((q 0), .inr (8, [.ref (q 16), .int (nI ((((0 + cA p0) + cA p1) + cA p2) + cA p3)), .int 0, .int 0])), ((q 16), .inl (kB, 240, .inl f_18))]) [1, 2] (by decide) rfl
  have hKc := hK.sub (tys' := [(kB, .int)]) [0] rfl
  have hFc := va_free (wc := [((q 0), .inr (8, [.ref (q 16), .int (nI ((((0 + cA p0) + cA p1) + cA p2) + cA p3)), .int 0, .int 0])), ((q 16), .inl (kB, 240, .inl f_18))]) hD hS hA [1, 2] rfl
  refine va_callv (va_runVN (As := [.int p4]) (rest := []) ⟨hx, hb, hml, hown, hts⟩ (f_X8_append l dC dI H.size q kB ((((0 + cA p0) + cA p1) + cA p2) + cA p3) f_18 p4 (by have := cA_le p0; have := cA_le p1; have := cA_le p2; have := cA_le p3; omega)) ⟨va_cnB 1 hts g_f_X11_feed_f_X8_append rfl rfl rfl (gx_n hG 60 rfl) (hts (.initialized RX8) (by decide +kernel)) (by decide +kernel) ⟨Nat.le_of_ble_eq_true rfl, Nat.le_of_ble_eq_true rfl⟩, (hts (.instanceMethod yX8_append) (by decide +kernel)), (hts (.selects RX8 yX8_append yX8_append) (by decide +kernel))⟩ ⟨cW_blind, va_recv hKc hPc (ci := 8) (q0 := 0) rfl rfl, fun U hU hW => ⟨rfl, cW_use hU hW hPc hKc hDc hG⟩⟩ rfl rfl hl.1 rfl (lv_room (Nat.le_of_ble_eq_true rfl)) dX11_feed_85 ⟨Nat.le_of_ble_eq_true rfl, Nat.le_of_ble_eq_true rfl⟩) hS (fun q _ h => hFc q h) hFc (fun u t H1 locs ht hvm hw hB hz1 hk1 hS => ?_)
  obtain ⟨f_20, hP1, hK1, hD1⟩ := hB
  rw [ht] at hP1
  have hK1 := va_K.moved hvm.symm hK1
  obtain ⟨hP, hD⟩ := va_join (wr := [((q 15), .inr (11, xF q 0 1))]) (w1 := [((q 0), .inr (8, [.ref (q 16), .int (nI (((((0 + cA p0) + cA p1) + cA p2) + cA p3) + cA p4)), .int 0, .int 0])), ((q 16), .inl (kB, 240, .inl f_20))]) hP hD [1, 2] [0] rfl rfl (by decide) (by decide) hk1 hFc hP1 hD1
  generalize H1 = H at hP hS ⊢
  have hP : va_P (dC, dI) vwCl [((q 15), .inr (11, xF q 0 1)), ((q 0), .inr (8, [.ref (q 16), .int (nI (((((0 + cA p0) + cA p1) + cA p2) + cA p3) + cA p4)), .int 0, .int 0])), ((q 16), .inl (kB, 240, .inl f_20))] H := hP
  have hD : va_D A [((q 15), .inr (11, xF q 0 1)), ((q 0), .inr (8, [.ref (q 16), .int (nI (((((0 + cA p0) + cA p1) + cA p2) + cA p3) + cA p4)), .int 0, .int 0])), ((q 16), .inl (kB, 240, .inl f_20))] := hD
  refine W.widen (k := 0) (n := 0) (Nat.le_of_ble_eq_true rfl) (Nat.le_of_ble_eq_true rfl) ?_
  refine lv_aload_n hx hb dX11_feed_88 rfl (lv_at hl 1 rfl) ?_
  refine va_get (D := (dC, dI)) (ci := 11) (v := .ref (q 0)) (C := RX11) (T := TX11) (N := 17) hx hb hts hiX11 hown hK hP 0 rfl rfl 0 (by decide) (hts (.fieldLink RX11 10 "WallChapels" "tape" "LWallChapels$Tape;") (by decide +kernel)) (fun _ h9 => h9) rfl dX11_feed_89 ?_
  refine va_getN (D := (dC, dI)) (ci := 8) (v := .int (nI (((((0 + cA p0) + cA p1) + cA p2) + cA p3) + cA p4))) (C := RX8) (T := TX8) (N := 4) hx hb hts hiX8 hown hK hP 1 rfl rfl 1 (by decide) (gx_u hG 1 rfl rfl) (fun _ h9 => h9) rfl dX11_feed_92 ?_
  exact W.iret (v := (nI (((((0 + cA p0) + cA p1) + cA p2) + cA p3) + cA p4))) hx hb hr (fun t ht hW => ⟨⟨(nI (((((0 + cA p0) + cA p1) + cA p2) + cA p3) + cA p4)), (), rfl, congrArg nI (by omega), trivial⟩, hS.F ht⟩) hS.2.2 dX11_feed_95
def vs_f_X12_feed : List Cond := .code yX12_feed cX12_feed 6 (some .int) :: ([.fieldLink RX12 90 "WallChapelsModel" "thrown" "I", .fieldLink RX12 103 "WallChapelsModel" "length" "I", .initialized RX12, .static yX12_bytesIn, .code yX12_bytesIn cX12_bytesIn 3 (some .int), .methodLink RX12 105 yX12_bytesIn, .instanceMethod yX12_put, .selects RX12 yX12_put yX12_put, .fieldLink RX12 9 "WallChapelsModel" "tape" "[B", .code yX12_put cX12_put 3 none, .methodLink RX12 109 yX12_put] ++ (u_ws RX12 TX12 54))
theorem vs_f_X12_feed_uX12 : ∀ w ∈ u_ws RX12 TX12 54, w ∈ vs_f_X12_feed := fun _ h => List.mem_cons_of_mem _ (List.mem_append_right _ (h))
set_option maxRecDepth 20000 in
theorem g_f_X12_feed_f_X12_bytesIn : GoodIn vs_f_X12_feed (va_wsS RX12 105 yX12_bytesIn vs_f_X12_bytesIn) := goodIn_r _ [6, 4, 3, 5] (by decide +kernel) (by decide +kernel)
set_option maxRecDepth 20000 in
theorem g_f_X12_feed_f_X12_put : GoodIn vs_f_X12_feed (wsV RX12 109 RX12 yX12_put vs_f_X12_put) := goodIn_r _ [11, 7, 8, 3, 10, 9, 2, 12, 13, 14, 15, 16, 17, 18, 19, 20, 21, 22, 23, 24, 25, 26, 27, 28, 29, 30, 31, 32, 33, 34, 35, 36, 37, 38, 39, 40, 41, 42, 43, 44, 45, 46, 47, 48, 49, 50, 51, 52, 53, 54, 55, 56, 57, 58, 59, 60, 61, 62, 63, 64, 65] (by decide +kernel) (by decide +kernel)
set_option maxHeartbeats 4000000 in
set_option maxRecDepth 100000 in
theorem f_X12_feed (l : Launch) (dC : Nat → ClassId) (dI : Nat → Nat → Nat) (sz : Nat) (r : Nat → Nat) (kT : ClassId) (fT : Nat → Int32) (p0 : Int32) (p1 : Int32) (p2 : Int32) (p3 : Int32) (p4 : Int32) : Met l yX12_feed vs_f_X12_feed ({ frames := 1, cells := 0, slots := 0, locals := 22 }) (va_Pc [.ref (r 100), .int p0, .int p1, .int p2, .int p3, .int p4] (cW dC dI [((r 100), .inr (12, mF r 0 0 0 0 0 0 0 0 0 0 0 0 0 (-1) 1)), ((r 1), .inl (kT, 240, .inl fT))] [(kT, .byte)] sz)) (va_Qi (fun (r : Int32) (_ : Unit) => r = nI (cA p0 + cA p1 + cA p2 + cA p3 + cA p4)) (fun (_ : Unit) (t : State) => True) (va_A [((r 100), .inr (12, mF r 0 0 0 0 0 0 0 0 0 0 0 0 0 (-1) 1)), ((r 1), .inl (kT, 240, .inl fT))] sz)) 0 0 (va_A [((r 100), .inr (12, mF r 0 0 0 0 0 0 0 0 0 0 0 0 0 (-1) 1)), ((r 1), .inl (kT, 240, .inl fT))] sz) := by
  refine Met.ofW (cc := cX12_feed) (maxL := 6) (ret := (some .int)) (by decide) rfl ?_
  intro p e s m args below meth c s₁ B hml hv
  obtain ⟨rfl, hsz, hP, hK, hD0, hG⟩ := hv
  have hx := B.exec
  have hb := B.bytes
  have hr := B.returns
  have hts := atoms_spec (ws := vs_f_X12_feed) B.pre
  have hown : s.vm.findClass RX12 = some m.cls := findClass_of_methodNamed B.named
  have hlocks := B.notSynchronized
  have hiX12 : ∀ w ∈ u_ws RX12 TX12 54, w ∈ vs_f_X12_feed := vs_f_X12_feed_uX12
  subst hsz
  have hD := hD0.self (sz := s.heap.size)
  generalize hAe : va_A [((r 100), .inr (12, mF r 0 0 0 0 0 0 0 0 0 0 0 0 0 (-1) 1)), ((r 1), .inl (kT, 240, .inl fT))] s.heap.size = A at hD ⊢
  have hA : ∀ q : Nat, s.heap.size ≤ q → A q := fun q h => by rw [← hAe]; exact Or.inr h
  have hS : va_S A s.heap s.heap [] := va_S.rf
  have hP : va_P (dC, dI) vwCl [((r 100), .inr (12, mF r 0 0 0 0 0 0 0 0 0 0 0 0 0 (-1) 1)), ((r 1), .inl (kT, 240, .inl fT))] s.heap := hP
  have hl := lv_entry ([.ref (r 100), .int p0, .int p1, .int p2, .int p3, .int p4]) (n := 6) (Nat.le_of_ble_eq_true rfl)
  rw [lg_entry_eq]
  generalize (lg_sl ([.ref (r 100), .int p0, .int p1, .int p2, .int p3, .int p4]) ++ List.replicate (6 - (lg_sl ([.ref (r 100), .int p0, .int p1, .int p2, .int p3, .int p4])).length) Slot.unset).toArray = ls at hl ⊢
  have hl : lv_has ls 6 [(0, .ref (r 100)), (1, .int p0), (2, .int p1), (3, .int p2), (4, .int p3), (5, .int p4)] := hl
  refine lv_aload_n hx hb dX12_feed_0 rfl (lv_at hl 0 rfl) ?_
  refine lv_iconst (v := 0) hx hb dX12_feed_1 (by decide) ?_
  refine va_put (D := (dC, dI)) (ci := 12) (v := .int 0) (ty := .int) (C := RX12) (T := TX12) (N := 54) hx hb hts hiX12 tyX12 tyX12_ok nmX12 hown hK hP hD hS 0 rfl rfl 0 (by decide) (hts (.fieldLink RX12 90 "WallChapelsModel" "thrown" "I") (by decide +kernel)) (fun _ h9 => h9) rfl (by decide +kernel) rfl rfl (Nat.le_of_ble_eq_true rfl) dX12_feed_2 (fun H locs hP hD hS => ?_)
  have hP : va_P (dC, dI) vwCl [((r 100), .inr (12, mF r 0 0 0 0 0 0 0 0 0 0 0 0 0 (-1) 1)), ((r 1), .inl (kT, 240, .inl fT))] H := hP
  have hD : va_D A [((r 100), .inr (12, mF r 0 0 0 0 0 0 0 0 0 0 0 0 0 (-1) 1)), ((r 1), .inl (kT, 240, .inl fT))] := hD
  refine lv_aload_n hx hb dX12_feed_5 rfl (lv_at hl 0 rfl) ?_
  refine va_get (D := (dC, dI)) (ci := 12) (v := .int 0) (C := RX12) (T := TX12) (N := 54) hx hb hts hiX12 hown hK hP 0 rfl rfl 6 (by decide) (hts (.fieldLink RX12 103 "WallChapelsModel" "length" "I") (by decide +kernel)) (fun _ h9 => h9) rfl dX12_feed_6 ?_
  refine lv_iload_n hx hb dX12_feed_9 rfl (lv_at hl 1 rfl) ?_
  have hPc := hP.sub (ws' := []) [] rfl
  have hDc := hD.sub (ws' := []) [] (by decide) rfl
  have hKc := hK.sub (tys' := []) [] rfl
  have hFc := va_free (wc := []) hD hS hA [] rfl
  refine va_calli (va_runS (As := [.int p0]) (rest := [.int 0]) ⟨hx, hb, hml, hown, hts⟩ (f_X12_bytesIn l dC dI H.size p0) (va_cwS 1 hts g_f_X12_feed_f_X12_bytesIn rfl rfl rfl (by decide +kernel) ⟨Nat.le_of_ble_eq_true rfl, Nat.le_of_ble_eq_true rfl⟩) ⟨cW_blind, fun U hU hW => ⟨rfl, cW_use hU hW hPc hKc hDc hG⟩⟩ rfl rfl hl.1 rfl (lv_room (Nat.le_of_ble_eq_true rfl)) dX12_feed_10 ⟨Nat.le_of_ble_eq_true rfl, Nat.le_of_ble_eq_true rfl⟩) hS (fun q _ h => hFc q h) hFc (fun r_1 u t H1 locs ht hvm hw hB hz1 hk1 hS => ?_)
  obtain ⟨hP, hD⟩ := va_join (wr := [((r 100), .inr (12, mF r 0 0 0 0 0 0 0 0 0 0 0 0 0 (-1) 1)), ((r 1), .inl (kT, 240, .inl fT))]) (w1 := []) hP hD [] [0, 1] rfl rfl (by decide) (by decide) hk1 hFc (va_P_nil H1) va_D_nil
  generalize H1 = H at hP hS ⊢
  have hP : va_P (dC, dI) vwCl [((r 100), .inr (12, mF r 0 0 0 0 0 0 0 0 0 0 0 0 0 (-1) 1)), ((r 1), .inl (kT, 240, .inl fT))] H := hP
  have hD : va_D A [((r 100), .inr (12, mF r 0 0 0 0 0 0 0 0 0 0 0 0 0 (-1) 1)), ((r 1), .inl (kT, 240, .inl fT))] := hD
  refine W.widen (k := 0) (n := 0) (Nat.le_of_ble_eq_true rfl) (Nat.le_of_ble_eq_true rfl) ?_
  obtain rfl : r_1 = nI (cA p0) := hw
  refine lv_iadd hx hb dX12_feed_13 ?_
  refine lv_topi (fun v_2 e_2 => ?_)
  obtain rfl : v_2 = nI (0 + (cA p0)) := by rw [e_2]; exact nI_add 0 (cA p0)
  refine lv_iload_n hx hb dX12_feed_14 rfl (lv_at hl 2 rfl) ?_
  have hPc := hP.sub (ws' := []) [] rfl
  have hDc := hD.sub (ws' := []) [] (by decide) rfl
  have hKc := hK.sub (tys' := []) [] rfl
  have hFc := va_free (wc := []) hD hS hA [] rfl
  refine va_calli (va_runS (As := [.int p1]) (rest := [.int (nI (0 + (cA p0)))]) ⟨hx, hb, hml, hown, hts⟩ (f_X12_bytesIn l dC dI H.size p1) (va_cwS 1 hts g_f_X12_feed_f_X12_bytesIn rfl rfl rfl (by decide +kernel) ⟨Nat.le_of_ble_eq_true rfl, Nat.le_of_ble_eq_true rfl⟩) ⟨cW_blind, fun U hU hW => ⟨rfl, cW_use hU hW hPc hKc hDc hG⟩⟩ rfl rfl hl.1 rfl (lv_room (Nat.le_of_ble_eq_true rfl)) dX12_feed_15 ⟨Nat.le_of_ble_eq_true rfl, Nat.le_of_ble_eq_true rfl⟩) hS (fun q _ h => hFc q h) hFc (fun r_3 u t H1 locs ht hvm hw hB hz1 hk1 hS => ?_)
  obtain ⟨hP, hD⟩ := va_join (wr := [((r 100), .inr (12, mF r 0 0 0 0 0 0 0 0 0 0 0 0 0 (-1) 1)), ((r 1), .inl (kT, 240, .inl fT))]) (w1 := []) hP hD [] [0, 1] rfl rfl (by decide) (by decide) hk1 hFc (va_P_nil H1) va_D_nil
  generalize H1 = H at hP hS ⊢
  have hP : va_P (dC, dI) vwCl [((r 100), .inr (12, mF r 0 0 0 0 0 0 0 0 0 0 0 0 0 (-1) 1)), ((r 1), .inl (kT, 240, .inl fT))] H := hP
  have hD : va_D A [((r 100), .inr (12, mF r 0 0 0 0 0 0 0 0 0 0 0 0 0 (-1) 1)), ((r 1), .inl (kT, 240, .inl fT))] := hD
  refine W.widen (k := 0) (n := 0) (Nat.le_of_ble_eq_true rfl) (Nat.le_of_ble_eq_true rfl) ?_
  obtain rfl : r_3 = nI (cA p1) := hw
  refine lv_iadd hx hb dX12_feed_18 ?_
  refine lv_topi (fun v_4 e_4 => ?_)
  obtain rfl : v_4 = nI ((0 + (cA p0)) + (cA p1)) := by rw [e_4]; exact nI_add (0 + (cA p0)) (cA p1)
  refine lv_iload_n hx hb dX12_feed_19 rfl (lv_at hl 3 rfl) ?_
  have hPc := hP.sub (ws' := []) [] rfl
  have hDc := hD.sub (ws' := []) [] (by decide) rfl
  have hKc := hK.sub (tys' := []) [] rfl
  have hFc := va_free (wc := []) hD hS hA [] rfl
  refine va_calli (va_runS (As := [.int p2]) (rest := [.int (nI ((0 + (cA p0)) + (cA p1)))]) ⟨hx, hb, hml, hown, hts⟩ (f_X12_bytesIn l dC dI H.size p2) (va_cwS 1 hts g_f_X12_feed_f_X12_bytesIn rfl rfl rfl (by decide +kernel) ⟨Nat.le_of_ble_eq_true rfl, Nat.le_of_ble_eq_true rfl⟩) ⟨cW_blind, fun U hU hW => ⟨rfl, cW_use hU hW hPc hKc hDc hG⟩⟩ rfl rfl hl.1 rfl (lv_room (Nat.le_of_ble_eq_true rfl)) dX12_feed_20 ⟨Nat.le_of_ble_eq_true rfl, Nat.le_of_ble_eq_true rfl⟩) hS (fun q _ h => hFc q h) hFc (fun r_5 u t H1 locs ht hvm hw hB hz1 hk1 hS => ?_)
  obtain ⟨hP, hD⟩ := va_join (wr := [((r 100), .inr (12, mF r 0 0 0 0 0 0 0 0 0 0 0 0 0 (-1) 1)), ((r 1), .inl (kT, 240, .inl fT))]) (w1 := []) hP hD [] [0, 1] rfl rfl (by decide) (by decide) hk1 hFc (va_P_nil H1) va_D_nil
  generalize H1 = H at hP hS ⊢
  have hP : va_P (dC, dI) vwCl [((r 100), .inr (12, mF r 0 0 0 0 0 0 0 0 0 0 0 0 0 (-1) 1)), ((r 1), .inl (kT, 240, .inl fT))] H := hP
  have hD : va_D A [((r 100), .inr (12, mF r 0 0 0 0 0 0 0 0 0 0 0 0 0 (-1) 1)), ((r 1), .inl (kT, 240, .inl fT))] := hD
  refine W.widen (k := 0) (n := 0) (Nat.le_of_ble_eq_true rfl) (Nat.le_of_ble_eq_true rfl) ?_
  obtain rfl : r_5 = nI (cA p2) := hw
  refine lv_iadd hx hb dX12_feed_23 ?_
  refine lv_topi (fun v_6 e_6 => ?_)
  obtain rfl : v_6 = nI (((0 + (cA p0)) + (cA p1)) + (cA p2)) := by rw [e_6]; exact nI_add ((0 + (cA p0)) + (cA p1)) (cA p2)
  refine lv_iload hx hb dX12_feed_24 (lv_at hl 4 rfl) ?_
  have hPc := hP.sub (ws' := []) [] rfl
  have hDc := hD.sub (ws' := []) [] (by decide) rfl
  have hKc := hK.sub (tys' := []) [] rfl
  have hFc := va_free (wc := []) hD hS hA [] rfl
  refine va_calli (va_runS (As := [.int p3]) (rest := [.int (nI (((0 + (cA p0)) + (cA p1)) + (cA p2)))]) ⟨hx, hb, hml, hown, hts⟩ (f_X12_bytesIn l dC dI H.size p3) (va_cwS 1 hts g_f_X12_feed_f_X12_bytesIn rfl rfl rfl (by decide +kernel) ⟨Nat.le_of_ble_eq_true rfl, Nat.le_of_ble_eq_true rfl⟩) ⟨cW_blind, fun U hU hW => ⟨rfl, cW_use hU hW hPc hKc hDc hG⟩⟩ rfl rfl hl.1 rfl (lv_room (Nat.le_of_ble_eq_true rfl)) dX12_feed_26 ⟨Nat.le_of_ble_eq_true rfl, Nat.le_of_ble_eq_true rfl⟩) hS (fun q _ h => hFc q h) hFc (fun r_7 u t H1 locs ht hvm hw hB hz1 hk1 hS => ?_)
  obtain ⟨hP, hD⟩ := va_join (wr := [((r 100), .inr (12, mF r 0 0 0 0 0 0 0 0 0 0 0 0 0 (-1) 1)), ((r 1), .inl (kT, 240, .inl fT))]) (w1 := []) hP hD [] [0, 1] rfl rfl (by decide) (by decide) hk1 hFc (va_P_nil H1) va_D_nil
  generalize H1 = H at hP hS ⊢
  have hP : va_P (dC, dI) vwCl [((r 100), .inr (12, mF r 0 0 0 0 0 0 0 0 0 0 0 0 0 (-1) 1)), ((r 1), .inl (kT, 240, .inl fT))] H := hP
  have hD : va_D A [((r 100), .inr (12, mF r 0 0 0 0 0 0 0 0 0 0 0 0 0 (-1) 1)), ((r 1), .inl (kT, 240, .inl fT))] := hD
  refine W.widen (k := 0) (n := 0) (Nat.le_of_ble_eq_true rfl) (Nat.le_of_ble_eq_true rfl) ?_
  obtain rfl : r_7 = nI (cA p3) := hw
  refine lv_iadd hx hb dX12_feed_29 ?_
  refine lv_topi (fun v_8 e_8 => ?_)
  obtain rfl : v_8 = nI ((((0 + (cA p0)) + (cA p1)) + (cA p2)) + (cA p3)) := by rw [e_8]; exact nI_add (((0 + (cA p0)) + (cA p1)) + (cA p2)) (cA p3)
  refine lv_iload hx hb dX12_feed_30 (lv_at hl 5 rfl) ?_
  have hPc := hP.sub (ws' := []) [] rfl
  have hDc := hD.sub (ws' := []) [] (by decide) rfl
  have hKc := hK.sub (tys' := []) [] rfl
  have hFc := va_free (wc := []) hD hS hA [] rfl
  refine va_calli (va_runS (As := [.int p4]) (rest := [.int (nI ((((0 + (cA p0)) + (cA p1)) + (cA p2)) + (cA p3)))]) ⟨hx, hb, hml, hown, hts⟩ (f_X12_bytesIn l dC dI H.size p4) (va_cwS 1 hts g_f_X12_feed_f_X12_bytesIn rfl rfl rfl (by decide +kernel) ⟨Nat.le_of_ble_eq_true rfl, Nat.le_of_ble_eq_true rfl⟩) ⟨cW_blind, fun U hU hW => ⟨rfl, cW_use hU hW hPc hKc hDc hG⟩⟩ rfl rfl hl.1 rfl (lv_room (Nat.le_of_ble_eq_true rfl)) dX12_feed_32 ⟨Nat.le_of_ble_eq_true rfl, Nat.le_of_ble_eq_true rfl⟩) hS (fun q _ h => hFc q h) hFc (fun r_9 u t H1 locs ht hvm hw hB hz1 hk1 hS => ?_)
  obtain ⟨hP, hD⟩ := va_join (wr := [((r 100), .inr (12, mF r 0 0 0 0 0 0 0 0 0 0 0 0 0 (-1) 1)), ((r 1), .inl (kT, 240, .inl fT))]) (w1 := []) hP hD [] [0, 1] rfl rfl (by decide) (by decide) hk1 hFc (va_P_nil H1) va_D_nil
  generalize H1 = H at hP hS ⊢
  have hP : va_P (dC, dI) vwCl [((r 100), .inr (12, mF r 0 0 0 0 0 0 0 0 0 0 0 0 0 (-1) 1)), ((r 1), .inl (kT, 240, .inl fT))] H := hP
  have hD : va_D A [((r 100), .inr (12, mF r 0 0 0 0 0 0 0 0 0 0 0 0 0 (-1) 1)), ((r 1), .inl (kT, 240, .inl fT))] := hD
  refine W.widen (k := 0) (n := 0) (Nat.le_of_ble_eq_true rfl) (Nat.le_of_ble_eq_true rfl) ?_
  obtain rfl : r_9 = nI (cA p4) := hw
  refine lv_iadd hx hb dX12_feed_35 ?_
  refine lv_topi (fun v_10 e_10 => ?_)
  obtain rfl : v_10 = nI (((((0 + (cA p0)) + (cA p1)) + (cA p2)) + (cA p3)) + (cA p4)) := by rw [e_10]; exact nI_add ((((0 + (cA p0)) + (cA p1)) + (cA p2)) + (cA p3)) (cA p4)
  refine lv_sipush (v := 240) hx hb dX12_feed_36 (by decide) ?_
  refine lv_icmp_le (tgt := 44) hx hb dX12_feed_39 (by decide) (fun _ => ?_) (fun c_11 => absurd (nI_le (a := (((((0 + (cA p0)) + (cA p1)) + (cA p2)) + (cA p3)) + (cA p4))) (b := 240) (by have := cA_le p0; have := cA_le p1; have := cA_le p2; have := cA_le p3; have := cA_le p4; omega) (by decide)) c_11)
  refine lv_aload_n hx hb dX12_feed_44 rfl (lv_at hl 0 rfl) ?_
  refine lv_iload_n hx hb dX12_feed_45 rfl (lv_at hl 1 rfl) ?_
  have hPc := hP.sub (ws' := [((r 100), .inr (12, mF r 0 0 0 0 0 0 0 0 0 0 0 0 0 (-1) 1)), ((r 1), .inl (kT, 240, .inl fT))]) [0, 1] rfl
  have hDc := hD.sub (ws' := [((r 100), .inr (12, mF r 0 0 0 0 0 0 0 0 0 0 0 0 0 (-1) 1)), ((r 1), .inl (kT, 240, .inl fT))]) [0, 1] (by decide) rfl
  have hKc := hK.sub (tys' := [(kT, .byte)]) [0] rfl
  have hFc := va_free (wc := [((r 100), .inr (12, mF r 0 0 0 0 0 0 0 0 0 0 0 0 0 (-1) 1)), ((r 1), .inl (kT, 240, .inl fT))]) hD hS hA [0, 1] rfl
  refine va_callv (va_runV (As := [.int p0]) (rest := []) ⟨hx, hb, hml, hown, hts⟩ (f_X12_put l dC dI H.size r kT 0 fT p0 (by omega)) (cwV 1 hts g_f_X12_feed_f_X12_put rfl rfl rfl (by decide +kernel) ⟨Nat.le_of_ble_eq_true rfl, Nat.le_of_ble_eq_true rfl⟩) ⟨cW_blind, va_recv hKc hPc (ci := 12) (q0 := 0) rfl rfl, fun U hU hW => ⟨rfl, cW_use hU hW hPc hKc hDc hG⟩⟩ rfl rfl hl.1 rfl (lv_room (Nat.le_of_ble_eq_true rfl)) dX12_feed_46 ⟨Nat.le_of_ble_eq_true rfl, Nat.le_of_ble_eq_true rfl⟩) hS (fun q _ h => hFc q h) hFc (fun u t H1 locs ht hvm hw hB hz1 hk1 hS => ?_)
  obtain ⟨f_12, hP1, hK1, hD1⟩ := hB
  rw [ht] at hP1
  have hK1 := va_K.moved hvm.symm hK1
  obtain ⟨hP, hD⟩ := va_join (wr := []) (w1 := [((r 100), .inr (12, mF r 0 (nI (0 + cA p0)) 0 0 0 0 0 0 0 0 0 0 0 (-1) 1)), ((r 1), .inl (kT, 240, .inl f_12))]) hP hD [0, 1] [] rfl rfl (by decide) (by decide) hk1 hFc hP1 hD1
  generalize H1 = H at hP hS ⊢
  have hP : va_P (dC, dI) vwCl [((r 100), .inr (12, mF r 0 (nI (0 + cA p0)) 0 0 0 0 0 0 0 0 0 0 0 (-1) 1)), ((r 1), .inl (kT, 240, .inl f_12))] H := hP
  have hD : va_D A [((r 100), .inr (12, mF r 0 (nI (0 + cA p0)) 0 0 0 0 0 0 0 0 0 0 0 (-1) 1)), ((r 1), .inl (kT, 240, .inl f_12))] := hD
  refine W.widen (k := 0) (n := 0) (Nat.le_of_ble_eq_true rfl) (Nat.le_of_ble_eq_true rfl) ?_
  refine lv_aload_n hx hb dX12_feed_49 rfl (lv_at hl 0 rfl) ?_
  refine lv_iload_n hx hb dX12_feed_50 rfl (lv_at hl 2 rfl) ?_
  have hPc := hP.sub (ws' := [((r 100), .inr (12, mF r 0 (nI (0 + cA p0)) 0 0 0 0 0 0 0 0 0 0 0 (-1) 1)), ((r 1), .inl (kT, 240, .inl f_12))]) [0, 1] rfl
  have hDc := hD.sub (ws' := [((r 100), .inr (12, mF r 0 (nI (0 + cA p0)) 0 0 0 0 0 0 0 0 0 0 0 (-1) 1)), ((r 1), .inl (kT, 240, .inl f_12))]) [0, 1] (by decide) rfl
  have hKc := hK.sub (tys' := [(kT, .byte)]) [0] rfl
  have hFc := va_free (wc := [((r 100), .inr (12, mF r 0 (nI (0 + cA p0)) 0 0 0 0 0 0 0 0 0 0 0 (-1) 1)), ((r 1), .inl (kT, 240, .inl f_12))]) hD hS hA [0, 1] rfl
  refine va_callv (va_runV (As := [.int p1]) (rest := []) ⟨hx, hb, hml, hown, hts⟩ (f_X12_put l dC dI H.size r kT (0 + cA p0) f_12 p1 (by have := cA_le p0; omega)) (cwV 1 hts g_f_X12_feed_f_X12_put rfl rfl rfl (by decide +kernel) ⟨Nat.le_of_ble_eq_true rfl, Nat.le_of_ble_eq_true rfl⟩) ⟨cW_blind, va_recv hKc hPc (ci := 12) (q0 := 0) rfl rfl, fun U hU hW => ⟨rfl, cW_use hU hW hPc hKc hDc hG⟩⟩ rfl rfl hl.1 rfl (lv_room (Nat.le_of_ble_eq_true rfl)) dX12_feed_51 ⟨Nat.le_of_ble_eq_true rfl, Nat.le_of_ble_eq_true rfl⟩) hS (fun q _ h => hFc q h) hFc (fun u t H1 locs ht hvm hw hB hz1 hk1 hS => ?_)
  obtain ⟨f_14, hP1, hK1, hD1⟩ := hB
  rw [ht] at hP1
  have hK1 := va_K.moved hvm.symm hK1
  obtain ⟨hP, hD⟩ := va_join (wr := []) (w1 := [((r 100), .inr (12, mF r 0 (nI ((0 + cA p0) + cA p1)) 0 0 0 0 0 0 0 0 0 0 0 (-1) 1)), ((r 1), .inl (kT, 240, .inl f_14))]) hP hD [0, 1] [] rfl rfl (by decide) (by decide) hk1 hFc hP1 hD1
  generalize H1 = H at hP hS ⊢
  have hP : va_P (dC, dI) vwCl [((r 100), .inr (12, mF r 0 (nI ((0 + cA p0) + cA p1)) 0 0 0 0 0 0 0 0 0 0 0 (-1) 1)), ((r 1), .inl (kT, 240, .inl f_14))] H := hP
  have hD : va_D A [((r 100), .inr (12, mF r 0 (nI ((0 + cA p0) + cA p1)) 0 0 0 0 0 0 0 0 0 0 0 (-1) 1)), ((r 1), .inl (kT, 240, .inl f_14))] := hD
  refine W.widen (k := 0) (n := 0) (Nat.le_of_ble_eq_true rfl) (Nat.le_of_ble_eq_true rfl) ?_
  refine lv_aload_n hx hb dX12_feed_54 rfl (lv_at hl 0 rfl) ?_
  refine lv_iload_n hx hb dX12_feed_55 rfl (lv_at hl 3 rfl) ?_
  have hPc := hP.sub (ws' := [((r 100), .inr (12, mF r 0 (nI ((0 + cA p0) + cA p1)) 0 0 0 0 0 0 0 0 0 0 0 (-1) 1)), ((r 1), .inl (kT, 240, .inl f_14))]) [0, 1] rfl
  have hDc := hD.sub (ws' := [((r 100), .inr (12, mF r 0 (nI ((0 + cA p0) + cA p1)) 0 0 0 0 0 0 0 0 0 0 0 (-1) 1)), ((r 1), .inl (kT, 240, .inl f_14))]) [0, 1] (by decide) rfl
  have hKc := hK.sub (tys' := [(kT, .byte)]) [0] rfl
  have hFc := va_free (wc := [((r 100), .inr (12, mF r 0 (nI ((0 + cA p0) + cA p1)) 0 0 0 0 0 0 0 0 0 0 0 (-1) 1)), ((r 1), .inl (kT, 240, .inl f_14))]) hD hS hA [0, 1] rfl
  refine va_callv (va_runV (As := [.int p2]) (rest := []) ⟨hx, hb, hml, hown, hts⟩ (f_X12_put l dC dI H.size r kT ((0 + cA p0) + cA p1) f_14 p2 (by have := cA_le p0; have := cA_le p1; omega)) (cwV 1 hts g_f_X12_feed_f_X12_put rfl rfl rfl (by decide +kernel) ⟨Nat.le_of_ble_eq_true rfl, Nat.le_of_ble_eq_true rfl⟩) ⟨cW_blind, va_recv hKc hPc (ci := 12) (q0 := 0) rfl rfl, fun U hU hW => ⟨rfl, cW_use hU hW hPc hKc hDc hG⟩⟩ rfl rfl hl.1 rfl (lv_room (Nat.le_of_ble_eq_true rfl)) dX12_feed_56 ⟨Nat.le_of_ble_eq_true rfl, Nat.le_of_ble_eq_true rfl⟩) hS (fun q _ h => hFc q h) hFc (fun u t H1 locs ht hvm hw hB hz1 hk1 hS => ?_)
  obtain ⟨f_16, hP1, hK1, hD1⟩ := hB
  rw [ht] at hP1
  have hK1 := va_K.moved hvm.symm hK1
  obtain ⟨hP, hD⟩ := va_join (wr := []) (w1 := [((r 100), .inr (12, mF r 0 (nI (((0 + cA p0) + cA p1) + cA p2)) 0 0 0 0 0 0 0 0 0 0 0 (-1) 1)), ((r 1), .inl (kT, 240, .inl f_16))]) hP hD [0, 1] [] rfl rfl (by decide) (by decide) hk1 hFc hP1 hD1
  generalize H1 = H at hP hS ⊢
  have hP : va_P (dC, dI) vwCl [((r 100), .inr (12, mF r 0 (nI (((0 + cA p0) + cA p1) + cA p2)) 0 0 0 0 0 0 0 0 0 0 0 (-1) 1)), ((r 1), .inl (kT, 240, .inl f_16))] H := hP
  have hD : va_D A [((r 100), .inr (12, mF r 0 (nI (((0 + cA p0) + cA p1) + cA p2)) 0 0 0 0 0 0 0 0 0 0 0 (-1) 1)), ((r 1), .inl (kT, 240, .inl f_16))] := hD
  refine W.widen (k := 0) (n := 0) (Nat.le_of_ble_eq_true rfl) (Nat.le_of_ble_eq_true rfl) ?_
  refine lv_aload_n hx hb dX12_feed_59 rfl (lv_at hl 0 rfl) ?_
  refine lv_iload hx hb dX12_feed_60 (lv_at hl 4 rfl) ?_
  have hPc := hP.sub (ws' := [((r 100), .inr (12, mF r 0 (nI (((0 + cA p0) + cA p1) + cA p2)) 0 0 0 0 0 0 0 0 0 0 0 (-1) 1)), ((r 1), .inl (kT, 240, .inl f_16))]) [0, 1] rfl
  have hDc := hD.sub (ws' := [((r 100), .inr (12, mF r 0 (nI (((0 + cA p0) + cA p1) + cA p2)) 0 0 0 0 0 0 0 0 0 0 0 (-1) 1)), ((r 1), .inl (kT, 240, .inl f_16))]) [0, 1] (by decide) rfl
  have hKc := hK.sub (tys' := [(kT, .byte)]) [0] rfl
  have hFc := va_free (wc := [((r 100), .inr (12, mF r 0 (nI (((0 + cA p0) + cA p1) + cA p2)) 0 0 0 0 0 0 0 0 0 0 0 (-1) 1)), ((r 1), .inl (kT, 240, .inl f_16))]) hD hS hA [0, 1] rfl
  refine va_callv (va_runV (As := [.int p3]) (rest := []) ⟨hx, hb, hml, hown, hts⟩ (f_X12_put l dC dI H.size r kT (((0 + cA p0) + cA p1) + cA p2) f_16 p3 (by have := cA_le p0; have := cA_le p1; have := cA_le p2; omega)) (cwV 1 hts g_f_X12_feed_f_X12_put rfl rfl rfl (by decide +kernel) ⟨Nat.le_of_ble_eq_true rfl, Nat.le_of_ble_eq_true rfl⟩) ⟨cW_blind, va_recv hKc hPc (ci := 12) (q0 := 0) rfl rfl, fun U hU hW => ⟨rfl, cW_use hU hW hPc hKc hDc hG⟩⟩ rfl rfl hl.1 rfl (lv_room (Nat.le_of_ble_eq_true rfl)) dX12_feed_62 ⟨Nat.le_of_ble_eq_true rfl, Nat.le_of_ble_eq_true rfl⟩) hS (fun q _ h => hFc q h) hFc (fun u t H1 locs ht hvm hw hB hz1 hk1 hS => ?_)
  obtain ⟨f_18, hP1, hK1, hD1⟩ := hB
  rw [ht] at hP1
  have hK1 := va_K.moved hvm.symm hK1
  obtain ⟨hP, hD⟩ := va_join (wr := []) (w1 := [((r 100), .inr (12, mF r 0 (nI ((((0 + cA p0) + cA p1) + cA p2) + cA p3)) 0 0 0 0 0 0 0 0 0 0 0 (-1) 1)), ((r 1), .inl (kT, 240, .inl f_18))]) hP hD [0, 1] [] rfl rfl (by decide) (by decide) hk1 hFc hP1 hD1
  generalize H1 = H at hP hS ⊢
  have hP : va_P (dC, dI) vwCl [((r 100), .inr (12, mF r 0 (nI ((((0 + cA p0) + cA p1) + cA p2) + cA p3)) 0 0 0 0 0 0 0 0 0 0 0 (-1) 1)), ((r 1), .inl (kT, 240, .inl f_18))] H := hP
  have hD : va_D A [((r 100), .inr (12, mF r 0 (nI ((((0 + cA p0) + cA p1) + cA p2) + cA p3)) 0 0 0 0 0 0 0 0 0 0 0 (-1) 1)), ((r 1), .inl (kT, 240, .inl f_18))] := hD
  refine W.widen (k := 0) (n := 0) (Nat.le_of_ble_eq_true rfl) (Nat.le_of_ble_eq_true rfl) ?_
  refine lv_aload_n hx hb dX12_feed_65 rfl (lv_at hl 0 rfl) ?_
  refine lv_iload hx hb dX12_feed_66 (lv_at hl 5 rfl) ?_
  have hPc := hP.sub (ws' := [((r 100), .inr (12, mF r 0 (nI ((((0 + cA p0) + cA p1) + cA p2) + cA p3)) 0 0 0 0 0 0 0 0 0 0 0 (-1) 1)), ((r 1), .inl (kT, 240, .inl f_18))]) [0, 1] rfl
  have hDc := hD.sub (ws' := [((r 100), .inr (12, mF r 0 (nI ((((0 + cA p0) + cA p1) + cA p2) + cA p3)) 0 0 0 0 0 0 0 0 0 0 0 (-1) 1)), ((r 1), .inl (kT, 240, .inl f_18))]) [0, 1] (by decide) rfl
  have hKc := hK.sub (tys' := [(kT, .byte)]) [0] rfl
  have hFc := va_free (wc := [((r 100), .inr (12, mF r 0 (nI ((((0 + cA p0) + cA p1) + cA p2) + cA p3)) 0 0 0 0 0 0 0 0 0 0 0 (-1) 1)), ((r 1), .inl (kT, 240, .inl f_18))]) hD hS hA [0, 1] rfl
  refine va_callv (va_runV (As := [.int p4]) (rest := []) ⟨hx, hb, hml, hown, hts⟩ (f_X12_put l dC dI H.size r kT ((((0 + cA p0) + cA p1) + cA p2) + cA p3) f_18 p4 (by have := cA_le p0; have := cA_le p1; have := cA_le p2; have := cA_le p3; omega)) (cwV 1 hts g_f_X12_feed_f_X12_put rfl rfl rfl (by decide +kernel) ⟨Nat.le_of_ble_eq_true rfl, Nat.le_of_ble_eq_true rfl⟩) ⟨cW_blind, va_recv hKc hPc (ci := 12) (q0 := 0) rfl rfl, fun U hU hW => ⟨rfl, cW_use hU hW hPc hKc hDc hG⟩⟩ rfl rfl hl.1 rfl (lv_room (Nat.le_of_ble_eq_true rfl)) dX12_feed_68 ⟨Nat.le_of_ble_eq_true rfl, Nat.le_of_ble_eq_true rfl⟩) hS (fun q _ h => hFc q h) hFc (fun u t H1 locs ht hvm hw hB hz1 hk1 hS => ?_)
  obtain ⟨f_20, hP1, hK1, hD1⟩ := hB
  rw [ht] at hP1
  have hK1 := va_K.moved hvm.symm hK1
  obtain ⟨hP, hD⟩ := va_join (wr := []) (w1 := [((r 100), .inr (12, mF r 0 (nI (((((0 + cA p0) + cA p1) + cA p2) + cA p3) + cA p4)) 0 0 0 0 0 0 0 0 0 0 0 (-1) 1)), ((r 1), .inl (kT, 240, .inl f_20))]) hP hD [0, 1] [] rfl rfl (by decide) (by decide) hk1 hFc hP1 hD1
  generalize H1 = H at hP hS ⊢
  have hP : va_P (dC, dI) vwCl [((r 100), .inr (12, mF r 0 (nI (((((0 + cA p0) + cA p1) + cA p2) + cA p3) + cA p4)) 0 0 0 0 0 0 0 0 0 0 0 (-1) 1)), ((r 1), .inl (kT, 240, .inl f_20))] H := hP
  have hD : va_D A [((r 100), .inr (12, mF r 0 (nI (((((0 + cA p0) + cA p1) + cA p2) + cA p3) + cA p4)) 0 0 0 0 0 0 0 0 0 0 0 (-1) 1)), ((r 1), .inl (kT, 240, .inl f_20))] := hD
  refine W.widen (k := 0) (n := 0) (Nat.le_of_ble_eq_true rfl) (Nat.le_of_ble_eq_true rfl) ?_
  refine lv_aload_n hx hb dX12_feed_71 rfl (lv_at hl 0 rfl) ?_
  refine va_get (D := (dC, dI)) (ci := 12) (v := .int (nI (((((0 + cA p0) + cA p1) + cA p2) + cA p3) + cA p4))) (C := RX12) (T := TX12) (N := 54) hx hb hts hiX12 hown hK hP 0 rfl rfl 6 (by decide) (hts (.fieldLink RX12 103 "WallChapelsModel" "length" "I") (by decide +kernel)) (fun _ h9 => h9) rfl dX12_feed_72 ?_
  exact W.iret (v := (nI (((((0 + cA p0) + cA p1) + cA p2) + cA p3) + cA p4))) hx hb hr (fun t ht hW => ⟨⟨(nI (((((0 + cA p0) + cA p1) + cA p2) + cA p3) + cA p4)), (), rfl, congrArg nI (by omega), trivial⟩, hS.F ht⟩) hS.2.2 dX12_feed_75
