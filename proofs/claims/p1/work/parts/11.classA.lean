set_option maxRecDepth 20000 in
theorem dX11_isCorner_0 : decode cX11_isCorner 0 = .ok (.iload_n 1, 1) := by decide +kernel
set_option maxRecDepth 20000 in
theorem dX11_isCorner_1 : decode cX11_isCorner 1 = .ok (.ifCond .lt 18, 3) := by decide +kernel
set_option maxRecDepth 20000 in
theorem dX11_isCorner_19 : decode cX11_isCorner 19 = .ok (.iconst 0, 1) := by decide +kernel
set_option maxRecDepth 20000 in
theorem dX11_isCorner_20 : decode cX11_isCorner 20 = .ok (.ireturn, 1) := by decide +kernel
set_option maxRecDepth 20000 in
theorem dX11_isCorner_4 : decode cX11_isCorner 4 = .ok (.iload_n 1, 1) := by decide +kernel
set_option maxRecDepth 20000 in
theorem dX11_isCorner_5 : decode cX11_isCorner 5 = .ok (.aload_n 0, 1) := by decide +kernel
set_option maxRecDepth 20000 in
theorem dX11_isCorner_6 : decode cX11_isCorner 6 = .ok (.getfield 19, 3) := by decide +kernel
set_option maxRecDepth 20000 in
theorem dX11_isCorner_9 : decode cX11_isCorner 9 = .ok (.getfield 216, 3) := by decide +kernel
set_option maxRecDepth 20000 in
theorem dX11_isCorner_12 : decode cX11_isCorner 12 = .ok (.if_icmp .ge 7, 3) := by decide +kernel
set_option maxRecDepth 20000 in
theorem dX11_isStreet_0 : decode cX11_isStreet 0 = .ok (.iload_n 1, 1) := by decide +kernel
set_option maxRecDepth 20000 in
theorem dX11_isStreet_1 : decode cX11_isStreet 1 = .ok (.ifCond .lt 18, 3) := by decide +kernel
set_option maxRecDepth 20000 in
theorem dX11_isStreet_19 : decode cX11_isStreet 19 = .ok (.iconst 0, 1) := by decide +kernel
set_option maxRecDepth 20000 in
theorem dX11_isStreet_20 : decode cX11_isStreet 20 = .ok (.ireturn, 1) := by decide +kernel
set_option maxRecDepth 20000 in
theorem dX11_isStreet_4 : decode cX11_isStreet 4 = .ok (.iload_n 1, 1) := by decide +kernel
set_option maxRecDepth 20000 in
theorem dX11_isStreet_5 : decode cX11_isStreet 5 = .ok (.aload_n 0, 1) := by decide +kernel
set_option maxRecDepth 20000 in
theorem dX11_isStreet_6 : decode cX11_isStreet 6 = .ok (.getfield 19, 3) := by decide +kernel
set_option maxRecDepth 20000 in
theorem dX11_isStreet_9 : decode cX11_isStreet 9 = .ok (.getfield 156, 3) := by decide +kernel
set_option maxRecDepth 20000 in
theorem dX11_isStreet_12 : decode cX11_isStreet 12 = .ok (.if_icmp .ge 7, 3) := by decide +kernel
set_option maxRecDepth 20000 in
theorem dX11_isWalker_0 : decode cX11_isWalker 0 = .ok (.iload_n 1, 1) := by decide +kernel
set_option maxRecDepth 20000 in
theorem dX11_isWalker_1 : decode cX11_isWalker 1 = .ok (.ifCond .lt 18, 3) := by decide +kernel
set_option maxRecDepth 20000 in
theorem dX11_isWalker_19 : decode cX11_isWalker 19 = .ok (.iconst 0, 1) := by decide +kernel
set_option maxRecDepth 20000 in
theorem dX11_isWalker_20 : decode cX11_isWalker 20 = .ok (.ireturn, 1) := by decide +kernel
set_option maxRecDepth 20000 in
theorem dX11_isWalker_4 : decode cX11_isWalker 4 = .ok (.iload_n 1, 1) := by decide +kernel
set_option maxRecDepth 20000 in
theorem dX11_isWalker_5 : decode cX11_isWalker 5 = .ok (.aload_n 0, 1) := by decide +kernel
set_option maxRecDepth 20000 in
theorem dX11_isWalker_6 : decode cX11_isWalker 6 = .ok (.getfield 19, 3) := by decide +kernel
set_option maxRecDepth 20000 in
theorem dX11_isWalker_9 : decode cX11_isWalker 9 = .ok (.getfield 219, 3) := by decide +kernel
set_option maxRecDepth 20000 in
theorem dX11_isWalker_12 : decode cX11_isWalker 12 = .ok (.if_icmp .ge 7, 3) := by decide +kernel
set_option maxRecDepth 20000 in
theorem dX11_hasTown_0 : decode cX11_hasTown 0 = .ok (.aload_n 0, 1) := by decide +kernel
set_option maxRecDepth 20000 in
theorem dX11_hasTown_1 : decode cX11_hasTown 1 = .ok (.getfield 19, 3) := by decide +kernel
set_option maxRecDepth 20000 in
theorem dX11_hasTown_4 : decode cX11_hasTown 4 = .ok (.getfield 216, 3) := by decide +kernel
set_option maxRecDepth 20000 in
theorem dX11_hasTown_7 : decode cX11_hasTown 7 = .ok (.ifCond .le 7, 3) := by decide +kernel
set_option maxRecDepth 20000 in
theorem dX11_hasTown_14 : decode cX11_hasTown 14 = .ok (.iconst 0, 1) := by decide +kernel
set_option maxRecDepth 20000 in
theorem dX11_hasTown_15 : decode cX11_hasTown 15 = .ok (.ireturn, 1) := by decide +kernel
set_option maxRecDepth 20000 in
theorem dX11_areTwoWalkers_0 : decode cX11_areTwoWalkers 0 = .ok (.aload_n 0, 1) := by decide +kernel
set_option maxRecDepth 20000 in
theorem dX11_areTwoWalkers_1 : decode cX11_areTwoWalkers 1 = .ok (.iload_n 1, 1) := by decide +kernel
set_option maxRecDepth 20000 in
theorem dX11_areTwoWalkers_2 : decode cX11_areTwoWalkers 2 = .ok (.invokevirtual 196, 3) := by decide +kernel
set_option maxRecDepth 20000 in
theorem dX11_areTwoWalkers_5 : decode cX11_areTwoWalkers 5 = .ok (.ifCond .eq 20, 3) := by decide +kernel
set_option maxRecDepth 20000 in
theorem dX11_areTwoWalkers_25 : decode cX11_areTwoWalkers 25 = .ok (.iconst 0, 1) := by decide +kernel
set_option maxRecDepth 20000 in
theorem dX11_areTwoWalkers_26 : decode cX11_areTwoWalkers 26 = .ok (.ireturn, 1) := by decide +kernel
set_option maxRecDepth 20000 in
theorem dX11_corner_0 : decode cX11_corner 0 = .ok (.aload_n 0, 1) := by decide +kernel
set_option maxRecDepth 20000 in
theorem dX11_corner_1 : decode cX11_corner 1 = .ok (.iload_n 1, 1) := by decide +kernel
set_option maxRecDepth 20000 in
theorem dX11_corner_2 : decode cX11_corner 2 = .ok (.invokevirtual 159, 3) := by decide +kernel
set_option maxRecDepth 20000 in
theorem dX11_corner_5 : decode cX11_corner 5 = .ok (.ifCond .ne 5, 3) := by decide +kernel
set_option maxRecDepth 20000 in
theorem dX11_corner_8 : decode cX11_corner 8 = .ok (.iconst (-1), 1) := by decide +kernel
set_option maxRecDepth 20000 in
theorem dX11_corner_9 : decode cX11_corner 9 = .ok (.ireturn, 1) := by decide +kernel
set_option maxRecDepth 20000 in
theorem dX11_day_0 : decode cX11_day 0 = .ok (.aload_n 0, 1) := by decide +kernel
set_option maxRecDepth 20000 in
theorem dX11_day_1 : decode cX11_day 1 = .ok (.invokevirtual 239, 3) := by decide +kernel
set_option maxRecDepth 20000 in
theorem dX11_day_4 : decode cX11_day 4 = .ok (.ifCond .eq 16, 3) := by decide +kernel
set_option maxRecDepth 20000 in
theorem dX11_day_20 : decode cX11_day 20 = .ok (.iconst (-1), 1) := by decide +kernel
set_option maxRecDepth 20000 in
theorem dX11_day_21 : decode cX11_day 21 = .ok (.ireturn, 1) := by decide +kernel
def vs_f_X11_isCorner : List Cond := .code yX11_isCorner cX11_isCorner 2 (some .boolean) :: ([.fieldLink RX11 19 "WallChapels" "town" "LWallChapels$Plan;"] ++ (u_ws RX11 TX11 17 ++ (u_ws RX5 TX5 8)))
theorem vs_f_X11_isCorner_uX11 : ∀ w ∈ u_ws RX11 TX11 17, w ∈ vs_f_X11_isCorner := fun _ h => List.mem_cons_of_mem _ (List.mem_append_right _ (List.mem_append_left _ h))
theorem vs_f_X11_isCorner_uX5 : ∀ w ∈ u_ws RX5 TX5 8, w ∈ vs_f_X11_isCorner := fun _ h => List.mem_cons_of_mem _ (List.mem_append_right _ (List.mem_append_right _ (h)))
set_option maxHeartbeats 4000000 in
set_option maxRecDepth 100000 in
theorem f_X11_isCorner (l : Launch) (dC : Nat → ClassId) (dI : Nat → Nat → Nat) (sz : Nat) (q : Nat → Nat) (p0 : Int32) : Met l yX11_isCorner vs_f_X11_isCorner ({ frames := 0, cells := 0, slots := 0, locals := 0 }) (va_Pc [.ref (q 15), .int p0] (cW dC dI [((q 15), .inr (11, [.ref (q 0), .ref (q 1), .ref (q 2), .ref (q 3), .ref (q 4), .ref (q 5), .ref (q 6), .ref (q 7), .ref (q 8), .ref (q 9), .ref (q 10), .ref (q 11), .ref (q 12), .ref (q 13), .ref (q 14), .int 0, .int 1])), ((q 1), .inr (5, [.int 0, .int 0, .int 0, .int 0, .ref (q 20), .ref (q 21), .ref (q 22), .ref (q 23)]))] [] sz)) (va_Qi (fun (r : Int32) (_ : Unit) => r = 0) (fun (_ : Unit) (t : State) => True) (va_A [((q 15), .inr (11, [.ref (q 0), .ref (q 1), .ref (q 2), .ref (q 3), .ref (q 4), .ref (q 5), .ref (q 6), .ref (q 7), .ref (q 8), .ref (q 9), .ref (q 10), .ref (q 11), .ref (q 12), .ref (q 13), .ref (q 14), .int 0, .int 1])), ((q 1), .inr (5, [.int 0, .int 0, .int 0, .int 0, .ref (q 20), .ref (q 21), .ref (q 22), .ref (q 23)]))] sz)) 0 0 (va_A [((q 15), .inr (11, [.ref (q 0), .ref (q 1), .ref (q 2), .ref (q 3), .ref (q 4), .ref (q 5), .ref (q 6), .ref (q 7), .ref (q 8), .ref (q 9), .ref (q 10), .ref (q 11), .ref (q 12), .ref (q 13), .ref (q 14), .int 0, .int 1])), ((q 1), .inr (5, [.int 0, .int 0, .int 0, .int 0, .ref (q 20), .ref (q 21), .ref (q 22), .ref (q 23)]))] sz) := by
  refine Met.ofW (cc := cX11_isCorner) (maxL := 2) (ret := (some .boolean)) (by decide) rfl ?_
  intro p e s m args below meth c s₁ B hml hv
  obtain ⟨rfl, hsz, hP, hK, hD0, hG⟩ := hv
  have hx := B.exec
  have hb := B.bytes
  have hr := B.returns
  have hts := atoms_spec (ws := vs_f_X11_isCorner) B.pre
  have hown : s.vm.findClass RX11 = some m.cls := findClass_of_methodNamed B.named
  have hlocks := B.notSynchronized
  have hiX11 : ∀ w ∈ u_ws RX11 TX11 17, w ∈ vs_f_X11_isCorner := vs_f_X11_isCorner_uX11
  have hiX5 : ∀ w ∈ u_ws RX5 TX5 8, w ∈ vs_f_X11_isCorner := vs_f_X11_isCorner_uX5
  subst hsz
  have hD := hD0.self (sz := s.heap.size)
  generalize hAe : va_A [((q 15), .inr (11, [.ref (q 0), .ref (q 1), .ref (q 2), .ref (q 3), .ref (q 4), .ref (q 5), .ref (q 6), .ref (q 7), .ref (q 8), .ref (q 9), .ref (q 10), .ref (q 11), .ref (q 12), .ref (q 13), .ref (q 14), .int 0, .int 1])), ((q 1), .inr (5, [.int 0, .int 0, .int 0, .int 0, .ref (q 20), .ref (q 21), .ref (q 22), .ref (q 23)]))] s.heap.size = A at hD ⊢
  have hA : ∀ q : Nat, s.heap.size ≤ q → A q := fun q h => by rw [← hAe]; exact Or.inr h
  have hS : va_S A s.heap s.heap [] := va_S.rf
  have hP : va_P (dC, dI) vwCl [((q 15), .inr (11, [.ref (q 0), .ref (q 1), .ref (q 2), .ref (q 3), .ref (q 4), .ref (q 5), .ref (q 6), .ref (q 7), .ref (q 8), .ref (q 9), .ref (q 10), .ref (q 11), .ref (q 12), .ref (q 13), .ref (q 14), .int 0, .int 1])), ((q 1), .inr (5, [.int 0, .int 0, .int 0, .int 0, .ref (q 20), .ref (q 21), .ref (q 22), .ref (q 23)]))] s.heap := hP
  have hl := lv_entry ([.ref (q 15), .int p0]) (n := 2) (Nat.le_of_ble_eq_true rfl)
  rw [lg_entry_eq]
  generalize (lg_sl ([.ref (q 15), .int p0]) ++ List.replicate (2 - (lg_sl ([.ref (q 15), .int p0])).length) Slot.unset).toArray = ls at hl ⊢
  have hl : lv_has ls 2 [(0, .ref (q 15)), (1, .int p0)] := hl
  refine lv_iload_n hx hb dX11_isCorner_0 rfl (lv_at hl 1 rfl) ?_
  refine lv_if_lt (tgt := 19) hx hb dX11_isCorner_1 (by decide) (fun c_1 => ?_) (fun c_1 => ?_)
  · refine lv_iconst (v := 0) hx hb dX11_isCorner_19 (by decide) ?_
    exact W.zret (v := 0) hx hb hr rfl (fun t ht hW => ⟨⟨0, (), rfl, rfl, trivial⟩, hS.F ht⟩) hS.2.2 dX11_isCorner_20
  · refine lv_iload_n hx hb dX11_isCorner_4 rfl (lv_at hl 1 rfl) ?_
    refine lv_aload_n hx hb dX11_isCorner_5 rfl (lv_at hl 0 rfl) ?_
    refine va_get (D := (dC, dI)) (ci := 11) (v := .ref (q 1)) (C := RX11) (T := TX11) (N := 17) hx hb hts hiX11 hown hK hP 0 rfl rfl 1 (by decide) (hts (.fieldLink RX11 19 "WallChapels" "town" "LWallChapels$Plan;") (by decide +kernel)) (fun _ h9 => h9) rfl dX11_isCorner_6 ?_
    refine va_getN (D := (dC, dI)) (ci := 5) (v := .int 0) (C := RX5) (T := TX5) (N := 8) hx hb hts hiX5 hown hK hP 1 rfl rfl 0 (by decide) (gx_u hG 10 rfl rfl) (fun _ h9 => h9) rfl dX11_isCorner_9 ?_
    refine lv_icmp_ge (tgt := 19) hx hb dX11_isCorner_12 (by decide) (fun c_2 => ?_) (fun c_2 => by have z0 := c_1; have z1 := c_2; simp only [i_lt, i_le, i_eq, i_zm1000000, i_zm30, i_zm20, i_zm2, i_zm1, i_z0, i_z1, i_z2, i_z3, i_z4, i_z5, i_z6, i_z7, i_z8, i_z9, i_z10, i_z11, i_z12, i_z13, i_z14, i_z15, i_z16, i_z17, i_z18, i_z19, i_z20, i_z21, i_z22, i_z23, i_z24, i_z30, i_z32, i_z40, i_z41, i_z50, i_z58, i_z59, i_z60, i_z63, i_z99, i_z100, i_z240, i_z255, i_z999] at z0 z1; omega)
    refine lv_iconst (v := 0) hx hb dX11_isCorner_19 (by decide) ?_
    exact W.zret (v := 0) hx hb hr rfl (fun t ht hW => ⟨⟨0, (), rfl, rfl, trivial⟩, hS.F ht⟩) hS.2.2 dX11_isCorner_20
def vs_f_X11_isStreet : List Cond := .code yX11_isStreet cX11_isStreet 2 (some .boolean) :: ([.fieldLink RX11 19 "WallChapels" "town" "LWallChapels$Plan;"] ++ (u_ws RX11 TX11 17 ++ (u_ws RX5 TX5 8)))
theorem vs_f_X11_isStreet_uX11 : ∀ w ∈ u_ws RX11 TX11 17, w ∈ vs_f_X11_isStreet := fun _ h => List.mem_cons_of_mem _ (List.mem_append_right _ (List.mem_append_left _ h))
theorem vs_f_X11_isStreet_uX5 : ∀ w ∈ u_ws RX5 TX5 8, w ∈ vs_f_X11_isStreet := fun _ h => List.mem_cons_of_mem _ (List.mem_append_right _ (List.mem_append_right _ (h)))
set_option maxHeartbeats 4000000 in
set_option maxRecDepth 100000 in
theorem f_X11_isStreet (l : Launch) (dC : Nat → ClassId) (dI : Nat → Nat → Nat) (sz : Nat) (q : Nat → Nat) (p0 : Int32) : Met l yX11_isStreet vs_f_X11_isStreet ({ frames := 0, cells := 0, slots := 0, locals := 0 }) (va_Pc [.ref (q 15), .int p0] (cW dC dI [((q 15), .inr (11, [.ref (q 0), .ref (q 1), .ref (q 2), .ref (q 3), .ref (q 4), .ref (q 5), .ref (q 6), .ref (q 7), .ref (q 8), .ref (q 9), .ref (q 10), .ref (q 11), .ref (q 12), .ref (q 13), .ref (q 14), .int 0, .int 1])), ((q 1), .inr (5, [.int 0, .int 0, .int 0, .int 0, .ref (q 20), .ref (q 21), .ref (q 22), .ref (q 23)]))] [] sz)) (va_Qi (fun (r : Int32) (_ : Unit) => r = 0) (fun (_ : Unit) (t : State) => True) (va_A [((q 15), .inr (11, [.ref (q 0), .ref (q 1), .ref (q 2), .ref (q 3), .ref (q 4), .ref (q 5), .ref (q 6), .ref (q 7), .ref (q 8), .ref (q 9), .ref (q 10), .ref (q 11), .ref (q 12), .ref (q 13), .ref (q 14), .int 0, .int 1])), ((q 1), .inr (5, [.int 0, .int 0, .int 0, .int 0, .ref (q 20), .ref (q 21), .ref (q 22), .ref (q 23)]))] sz)) 0 0 (va_A [((q 15), .inr (11, [.ref (q 0), .ref (q 1), .ref (q 2), .ref (q 3), .ref (q 4), .ref (q 5), .ref (q 6), .ref (q 7), .ref (q 8), .ref (q 9), .ref (q 10), .ref (q 11), .ref (q 12), .ref (q 13), .ref (q 14), .int 0, .int 1])), ((q 1), .inr (5, [.int 0, .int 0, .int 0, .int 0, .ref (q 20), .ref (q 21), .ref (q 22), .ref (q 23)]))] sz) := by
  refine Met.ofW (cc := cX11_isStreet) (maxL := 2) (ret := (some .boolean)) (by decide) rfl ?_
  intro p e s m args below meth c s₁ B hml hv
  obtain ⟨rfl, hsz, hP, hK, hD0, hG⟩ := hv
  have hx := B.exec
  have hb := B.bytes
  have hr := B.returns
  have hts := atoms_spec (ws := vs_f_X11_isStreet) B.pre
  have hown : s.vm.findClass RX11 = some m.cls := findClass_of_methodNamed B.named
  have hlocks := B.notSynchronized
  have hiX11 : ∀ w ∈ u_ws RX11 TX11 17, w ∈ vs_f_X11_isStreet := vs_f_X11_isStreet_uX11
  have hiX5 : ∀ w ∈ u_ws RX5 TX5 8, w ∈ vs_f_X11_isStreet := vs_f_X11_isStreet_uX5
  subst hsz
  have hD := hD0.self (sz := s.heap.size)
  generalize hAe : va_A [((q 15), .inr (11, [.ref (q 0), .ref (q 1), .ref (q 2), .ref (q 3), .ref (q 4), .ref (q 5), .ref (q 6), .ref (q 7), .ref (q 8), .ref (q 9), .ref (q 10), .ref (q 11), .ref (q 12), .ref (q 13), .ref (q 14), .int 0, .int 1])), ((q 1), .inr (5, [.int 0, .int 0, .int 0, .int 0, .ref (q 20), .ref (q 21), .ref (q 22), .ref (q 23)]))] s.heap.size = A at hD ⊢
  have hA : ∀ q : Nat, s.heap.size ≤ q → A q := fun q h => by rw [← hAe]; exact Or.inr h
  have hS : va_S A s.heap s.heap [] := va_S.rf
  have hP : va_P (dC, dI) vwCl [((q 15), .inr (11, [.ref (q 0), .ref (q 1), .ref (q 2), .ref (q 3), .ref (q 4), .ref (q 5), .ref (q 6), .ref (q 7), .ref (q 8), .ref (q 9), .ref (q 10), .ref (q 11), .ref (q 12), .ref (q 13), .ref (q 14), .int 0, .int 1])), ((q 1), .inr (5, [.int 0, .int 0, .int 0, .int 0, .ref (q 20), .ref (q 21), .ref (q 22), .ref (q 23)]))] s.heap := hP
  have hl := lv_entry ([.ref (q 15), .int p0]) (n := 2) (Nat.le_of_ble_eq_true rfl)
  rw [lg_entry_eq]
  generalize (lg_sl ([.ref (q 15), .int p0]) ++ List.replicate (2 - (lg_sl ([.ref (q 15), .int p0])).length) Slot.unset).toArray = ls at hl ⊢
  have hl : lv_has ls 2 [(0, .ref (q 15)), (1, .int p0)] := hl
  refine lv_iload_n hx hb dX11_isStreet_0 rfl (lv_at hl 1 rfl) ?_
  refine lv_if_lt (tgt := 19) hx hb dX11_isStreet_1 (by decide) (fun c_1 => ?_) (fun c_1 => ?_)
  · refine lv_iconst (v := 0) hx hb dX11_isStreet_19 (by decide) ?_
    exact W.zret (v := 0) hx hb hr rfl (fun t ht hW => ⟨⟨0, (), rfl, rfl, trivial⟩, hS.F ht⟩) hS.2.2 dX11_isStreet_20
  · refine lv_iload_n hx hb dX11_isStreet_4 rfl (lv_at hl 1 rfl) ?_
    refine lv_aload_n hx hb dX11_isStreet_5 rfl (lv_at hl 0 rfl) ?_
    refine va_get (D := (dC, dI)) (ci := 11) (v := .ref (q 1)) (C := RX11) (T := TX11) (N := 17) hx hb hts hiX11 hown hK hP 0 rfl rfl 1 (by decide) (hts (.fieldLink RX11 19 "WallChapels" "town" "LWallChapels$Plan;") (by decide +kernel)) (fun _ h9 => h9) rfl dX11_isStreet_6 ?_
    refine va_getN (D := (dC, dI)) (ci := 5) (v := .int 0) (C := RX5) (T := TX5) (N := 8) hx hb hts hiX5 hown hK hP 1 rfl rfl 1 (by decide) (gx_u hG 13 rfl rfl) (fun _ h9 => h9) rfl dX11_isStreet_9 ?_
    refine lv_icmp_ge (tgt := 19) hx hb dX11_isStreet_12 (by decide) (fun c_2 => ?_) (fun c_2 => by have z0 := c_1; have z1 := c_2; simp only [i_lt, i_le, i_eq, i_zm1000000, i_zm30, i_zm20, i_zm2, i_zm1, i_z0, i_z1, i_z2, i_z3, i_z4, i_z5, i_z6, i_z7, i_z8, i_z9, i_z10, i_z11, i_z12, i_z13, i_z14, i_z15, i_z16, i_z17, i_z18, i_z19, i_z20, i_z21, i_z22, i_z23, i_z24, i_z30, i_z32, i_z40, i_z41, i_z50, i_z58, i_z59, i_z60, i_z63, i_z99, i_z100, i_z240, i_z255, i_z999] at z0 z1; omega)
    refine lv_iconst (v := 0) hx hb dX11_isStreet_19 (by decide) ?_
    exact W.zret (v := 0) hx hb hr rfl (fun t ht hW => ⟨⟨0, (), rfl, rfl, trivial⟩, hS.F ht⟩) hS.2.2 dX11_isStreet_20
def vs_f_X11_isWalker : List Cond := .code yX11_isWalker cX11_isWalker 2 (some .boolean) :: ([.fieldLink RX11 19 "WallChapels" "town" "LWallChapels$Plan;"] ++ (u_ws RX11 TX11 17 ++ (u_ws RX5 TX5 8)))
theorem vs_f_X11_isWalker_uX11 : ∀ w ∈ u_ws RX11 TX11 17, w ∈ vs_f_X11_isWalker := fun _ h => List.mem_cons_of_mem _ (List.mem_append_right _ (List.mem_append_left _ h))
theorem vs_f_X11_isWalker_uX5 : ∀ w ∈ u_ws RX5 TX5 8, w ∈ vs_f_X11_isWalker := fun _ h => List.mem_cons_of_mem _ (List.mem_append_right _ (List.mem_append_right _ (h)))
set_option maxHeartbeats 4000000 in
set_option maxRecDepth 100000 in
theorem f_X11_isWalker (l : Launch) (dC : Nat → ClassId) (dI : Nat → Nat → Nat) (sz : Nat) (q : Nat → Nat) (p0 : Int32) : Met l yX11_isWalker vs_f_X11_isWalker ({ frames := 0, cells := 0, slots := 0, locals := 0 }) (va_Pc [.ref (q 15), .int p0] (cW dC dI [((q 15), .inr (11, [.ref (q 0), .ref (q 1), .ref (q 2), .ref (q 3), .ref (q 4), .ref (q 5), .ref (q 6), .ref (q 7), .ref (q 8), .ref (q 9), .ref (q 10), .ref (q 11), .ref (q 12), .ref (q 13), .ref (q 14), .int 0, .int 1])), ((q 1), .inr (5, [.int 0, .int 0, .int 0, .int 0, .ref (q 20), .ref (q 21), .ref (q 22), .ref (q 23)]))] [] sz)) (va_Qi (fun (r : Int32) (_ : Unit) => r = 0) (fun (_ : Unit) (t : State) => True) (va_A [((q 15), .inr (11, [.ref (q 0), .ref (q 1), .ref (q 2), .ref (q 3), .ref (q 4), .ref (q 5), .ref (q 6), .ref (q 7), .ref (q 8), .ref (q 9), .ref (q 10), .ref (q 11), .ref (q 12), .ref (q 13), .ref (q 14), .int 0, .int 1])), ((q 1), .inr (5, [.int 0, .int 0, .int 0, .int 0, .ref (q 20), .ref (q 21), .ref (q 22), .ref (q 23)]))] sz)) 0 0 (va_A [((q 15), .inr (11, [.ref (q 0), .ref (q 1), .ref (q 2), .ref (q 3), .ref (q 4), .ref (q 5), .ref (q 6), .ref (q 7), .ref (q 8), .ref (q 9), .ref (q 10), .ref (q 11), .ref (q 12), .ref (q 13), .ref (q 14), .int 0, .int 1])), ((q 1), .inr (5, [.int 0, .int 0, .int 0, .int 0, .ref (q 20), .ref (q 21), .ref (q 22), .ref (q 23)]))] sz) := by
  refine Met.ofW (cc := cX11_isWalker) (maxL := 2) (ret := (some .boolean)) (by decide) rfl ?_
  intro p e s m args below meth c s₁ B hml hv
  obtain ⟨rfl, hsz, hP, hK, hD0, hG⟩ := hv
  have hx := B.exec
  have hb := B.bytes
  have hr := B.returns
  have hts := atoms_spec (ws := vs_f_X11_isWalker) B.pre
  have hown : s.vm.findClass RX11 = some m.cls := findClass_of_methodNamed B.named
  have hlocks := B.notSynchronized
  have hiX11 : ∀ w ∈ u_ws RX11 TX11 17, w ∈ vs_f_X11_isWalker := vs_f_X11_isWalker_uX11
  have hiX5 : ∀ w ∈ u_ws RX5 TX5 8, w ∈ vs_f_X11_isWalker := vs_f_X11_isWalker_uX5
  subst hsz
  have hD := hD0.self (sz := s.heap.size)
  generalize hAe : va_A [((q 15), .inr (11, [.ref (q 0), .ref (q 1), .ref (q 2), .ref (q 3), .ref (q 4), .ref (q 5), .ref (q 6), .ref (q 7), .ref (q 8), .ref (q 9), .ref (q 10), .ref (q 11), .ref (q 12), .ref (q 13), .ref (q 14), .int 0, .int 1])), ((q 1), .inr (5, [.int 0, .int 0, .int 0, .int 0, .ref (q 20), .ref (q 21), .ref (q 22), .ref (q 23)]))] s.heap.size = A at hD ⊢
  have hA : ∀ q : Nat, s.heap.size ≤ q → A q := fun q h => by rw [← hAe]; exact Or.inr h
  have hS : va_S A s.heap s.heap [] := va_S.rf
  have hP : va_P (dC, dI) vwCl [((q 15), .inr (11, [.ref (q 0), .ref (q 1), .ref (q 2), .ref (q 3), .ref (q 4), .ref (q 5), .ref (q 6), .ref (q 7), .ref (q 8), .ref (q 9), .ref (q 10), .ref (q 11), .ref (q 12), .ref (q 13), .ref (q 14), .int 0, .int 1])), ((q 1), .inr (5, [.int 0, .int 0, .int 0, .int 0, .ref (q 20), .ref (q 21), .ref (q 22), .ref (q 23)]))] s.heap := hP
  have hl := lv_entry ([.ref (q 15), .int p0]) (n := 2) (Nat.le_of_ble_eq_true rfl)
  rw [lg_entry_eq]
  generalize (lg_sl ([.ref (q 15), .int p0]) ++ List.replicate (2 - (lg_sl ([.ref (q 15), .int p0])).length) Slot.unset).toArray = ls at hl ⊢
  have hl : lv_has ls 2 [(0, .ref (q 15)), (1, .int p0)] := hl
  refine lv_iload_n hx hb dX11_isWalker_0 rfl (lv_at hl 1 rfl) ?_
  refine lv_if_lt (tgt := 19) hx hb dX11_isWalker_1 (by decide) (fun c_1 => ?_) (fun c_1 => ?_)
  · refine lv_iconst (v := 0) hx hb dX11_isWalker_19 (by decide) ?_
    exact W.zret (v := 0) hx hb hr rfl (fun t ht hW => ⟨⟨0, (), rfl, rfl, trivial⟩, hS.F ht⟩) hS.2.2 dX11_isWalker_20
  · refine lv_iload_n hx hb dX11_isWalker_4 rfl (lv_at hl 1 rfl) ?_
    refine lv_aload_n hx hb dX11_isWalker_5 rfl (lv_at hl 0 rfl) ?_
    refine va_get (D := (dC, dI)) (ci := 11) (v := .ref (q 1)) (C := RX11) (T := TX11) (N := 17) hx hb hts hiX11 hown hK hP 0 rfl rfl 1 (by decide) (hts (.fieldLink RX11 19 "WallChapels" "town" "LWallChapels$Plan;") (by decide +kernel)) (fun _ h9 => h9) rfl dX11_isWalker_6 ?_
    refine va_getN (D := (dC, dI)) (ci := 5) (v := .int 0) (C := RX5) (T := TX5) (N := 8) hx hb hts hiX5 hown hK hP 1 rfl rfl 2 (by decide) (gx_u hG 16 rfl rfl) (fun _ h9 => h9) rfl dX11_isWalker_9 ?_
    refine lv_icmp_ge (tgt := 19) hx hb dX11_isWalker_12 (by decide) (fun c_2 => ?_) (fun c_2 => by have z0 := c_1; have z1 := c_2; simp only [i_lt, i_le, i_eq, i_zm1000000, i_zm30, i_zm20, i_zm2, i_zm1, i_z0, i_z1, i_z2, i_z3, i_z4, i_z5, i_z6, i_z7, i_z8, i_z9, i_z10, i_z11, i_z12, i_z13, i_z14, i_z15, i_z16, i_z17, i_z18, i_z19, i_z20, i_z21, i_z22, i_z23, i_z24, i_z30, i_z32, i_z40, i_z41, i_z50, i_z58, i_z59, i_z60, i_z63, i_z99, i_z100, i_z240, i_z255, i_z999] at z0 z1; omega)
    refine lv_iconst (v := 0) hx hb dX11_isWalker_19 (by decide) ?_
    exact W.zret (v := 0) hx hb hr rfl (fun t ht hW => ⟨⟨0, (), rfl, rfl, trivial⟩, hS.F ht⟩) hS.2.2 dX11_isWalker_20
def vs_f_X11_hasTown : List Cond := .code yX11_hasTown cX11_hasTown 1 (some .boolean) :: ([.fieldLink RX11 19 "WallChapels" "town" "LWallChapels$Plan;"] ++ (u_ws RX11 TX11 17 ++ (u_ws RX5 TX5 8)))
theorem vs_f_X11_hasTown_uX11 : ∀ w ∈ u_ws RX11 TX11 17, w ∈ vs_f_X11_hasTown := fun _ h => List.mem_cons_of_mem _ (List.mem_append_right _ (List.mem_append_left _ h))
theorem vs_f_X11_hasTown_uX5 : ∀ w ∈ u_ws RX5 TX5 8, w ∈ vs_f_X11_hasTown := fun _ h => List.mem_cons_of_mem _ (List.mem_append_right _ (List.mem_append_right _ (h)))
set_option maxHeartbeats 4000000 in
set_option maxRecDepth 100000 in
theorem f_X11_hasTown (l : Launch) (dC : Nat → ClassId) (dI : Nat → Nat → Nat) (sz : Nat) (q : Nat → Nat) : Met l yX11_hasTown vs_f_X11_hasTown ({ frames := 0, cells := 0, slots := 0, locals := 0 }) (va_Pc [.ref (q 15)] (cW dC dI [((q 15), .inr (11, [.ref (q 0), .ref (q 1), .ref (q 2), .ref (q 3), .ref (q 4), .ref (q 5), .ref (q 6), .ref (q 7), .ref (q 8), .ref (q 9), .ref (q 10), .ref (q 11), .ref (q 12), .ref (q 13), .ref (q 14), .int 0, .int 1])), ((q 1), .inr (5, [.int 0, .int 0, .int 0, .int 0, .ref (q 20), .ref (q 21), .ref (q 22), .ref (q 23)]))] [] sz)) (va_Qi (fun (r : Int32) (_ : Unit) => r = 0) (fun (_ : Unit) (t : State) => True) (va_A [((q 15), .inr (11, [.ref (q 0), .ref (q 1), .ref (q 2), .ref (q 3), .ref (q 4), .ref (q 5), .ref (q 6), .ref (q 7), .ref (q 8), .ref (q 9), .ref (q 10), .ref (q 11), .ref (q 12), .ref (q 13), .ref (q 14), .int 0, .int 1])), ((q 1), .inr (5, [.int 0, .int 0, .int 0, .int 0, .ref (q 20), .ref (q 21), .ref (q 22), .ref (q 23)]))] sz)) 0 0 (va_A [((q 15), .inr (11, [.ref (q 0), .ref (q 1), .ref (q 2), .ref (q 3), .ref (q 4), .ref (q 5), .ref (q 6), .ref (q 7), .ref (q 8), .ref (q 9), .ref (q 10), .ref (q 11), .ref (q 12), .ref (q 13), .ref (q 14), .int 0, .int 1])), ((q 1), .inr (5, [.int 0, .int 0, .int 0, .int 0, .ref (q 20), .ref (q 21), .ref (q 22), .ref (q 23)]))] sz) := by
  refine Met.ofW (cc := cX11_hasTown) (maxL := 1) (ret := (some .boolean)) (by decide) rfl ?_
  intro p e s m args below meth c s₁ B hml hv
  obtain ⟨rfl, hsz, hP, hK, hD0, hG⟩ := hv
  have hx := B.exec
  have hb := B.bytes
  have hr := B.returns
  have hts := atoms_spec (ws := vs_f_X11_hasTown) B.pre
  have hown : s.vm.findClass RX11 = some m.cls := findClass_of_methodNamed B.named
  have hlocks := B.notSynchronized
  have hiX11 : ∀ w ∈ u_ws RX11 TX11 17, w ∈ vs_f_X11_hasTown := vs_f_X11_hasTown_uX11
  have hiX5 : ∀ w ∈ u_ws RX5 TX5 8, w ∈ vs_f_X11_hasTown := vs_f_X11_hasTown_uX5
  subst hsz
  have hD := hD0.self (sz := s.heap.size)
  generalize hAe : va_A [((q 15), .inr (11, [.ref (q 0), .ref (q 1), .ref (q 2), .ref (q 3), .ref (q 4), .ref (q 5), .ref (q 6), .ref (q 7), .ref (q 8), .ref (q 9), .ref (q 10), .ref (q 11), .ref (q 12), .ref (q 13), .ref (q 14), .int 0, .int 1])), ((q 1), .inr (5, [.int 0, .int 0, .int 0, .int 0, .ref (q 20), .ref (q 21), .ref (q 22), .ref (q 23)]))] s.heap.size = A at hD ⊢
  have hA : ∀ q : Nat, s.heap.size ≤ q → A q := fun q h => by rw [← hAe]; exact Or.inr h
  have hS : va_S A s.heap s.heap [] := va_S.rf
  have hP : va_P (dC, dI) vwCl [((q 15), .inr (11, [.ref (q 0), .ref (q 1), .ref (q 2), .ref (q 3), .ref (q 4), .ref (q 5), .ref (q 6), .ref (q 7), .ref (q 8), .ref (q 9), .ref (q 10), .ref (q 11), .ref (q 12), .ref (q 13), .ref (q 14), .int 0, .int 1])), ((q 1), .inr (5, [.int 0, .int 0, .int 0, .int 0, .ref (q 20), .ref (q 21), .ref (q 22), .ref (q 23)]))] s.heap := hP
  have hl := lv_entry ([.ref (q 15)]) (n := 1) (Nat.le_of_ble_eq_true rfl)
  rw [lg_entry_eq]
  generalize (lg_sl ([.ref (q 15)]) ++ List.replicate (1 - (lg_sl ([.ref (q 15)])).length) Slot.unset).toArray = ls at hl ⊢
  have hl : lv_has ls 1 [(0, .ref (q 15))] := hl
  refine lv_aload_n hx hb dX11_hasTown_0 rfl (lv_at hl 0 rfl) ?_
  refine va_get (D := (dC, dI)) (ci := 11) (v := .ref (q 1)) (C := RX11) (T := TX11) (N := 17) hx hb hts hiX11 hown hK hP 0 rfl rfl 1 (by decide) (hts (.fieldLink RX11 19 "WallChapels" "town" "LWallChapels$Plan;") (by decide +kernel)) (fun _ h9 => h9) rfl dX11_hasTown_1 ?_
  refine va_getN (D := (dC, dI)) (ci := 5) (v := .int 0) (C := RX5) (T := TX5) (N := 8) hx hb hts hiX5 hown hK hP 1 rfl rfl 0 (by decide) (gx_u hG 10 rfl rfl) (fun _ h9 => h9) rfl dX11_hasTown_4 ?_
  refine lv_if_le (tgt := 14) hx hb dX11_hasTown_7 (by decide) (fun c_1 => ?_) (fun c_1 => absurd (by decide) c_1)
  refine lv_iconst (v := 0) hx hb dX11_hasTown_14 (by decide) ?_
  exact W.zret (v := 0) hx hb hr rfl (fun t ht hW => ⟨⟨0, (), rfl, rfl, trivial⟩, hS.F ht⟩) hS.2.2 dX11_hasTown_15
def vs_f_X11_areTwoWalkers : List Cond := .code yX11_areTwoWalkers cX11_areTwoWalkers 3 (some .boolean) :: ([.initialized RX11, .instanceMethod yX11_isWalker, .selects RX11 yX11_isWalker yX11_isWalker, .fieldLink RX11 19 "WallChapels" "town" "LWallChapels$Plan;", .code yX11_isWalker cX11_isWalker 2 (some .boolean), .methodLink RX11 196 yX11_isWalker] ++ (u_ws RX11 TX11 17 ++ (u_ws RX5 TX5 8)))
theorem vs_f_X11_areTwoWalkers_uX11 : ∀ w ∈ u_ws RX11 TX11 17, w ∈ vs_f_X11_areTwoWalkers := fun _ h => List.mem_cons_of_mem _ (List.mem_append_right _ (List.mem_append_left _ h))
theorem vs_f_X11_areTwoWalkers_uX5 : ∀ w ∈ u_ws RX5 TX5 8, w ∈ vs_f_X11_areTwoWalkers := fun _ h => List.mem_cons_of_mem _ (List.mem_append_right _ (List.mem_append_right _ (h)))
set_option maxRecDepth 20000 in
theorem g_f_X11_areTwoWalkers_f_X11_isWalker : GoodIn vs_f_X11_areTwoWalkers (wsV RX11 196 RX11 yX11_isWalker vs_f_X11_isWalker) := goodIn_r _ [6, 2, 3, 1, 5, 4, 7, 8, 9, 10, 11, 12, 13, 14, 15, 16, 17, 18, 19, 20, 21, 22, 23, 24, 25, 26, 27, 28, 29, 30, 31] (by decide +kernel) (by decide +kernel)
set_option maxHeartbeats 4000000 in
set_option maxRecDepth 100000 in
theorem f_X11_areTwoWalkers (l : Launch) (dC : Nat → ClassId) (dI : Nat → Nat → Nat) (sz : Nat) (q : Nat → Nat) (p0 : Int32) (p1 : Int32) : Met l yX11_areTwoWalkers vs_f_X11_areTwoWalkers ({ frames := 1, cells := 0, slots := 0, locals := 21 }) (va_Pc [.ref (q 15), .int p0, .int p1] (cW dC dI [((q 15), .inr (11, [.ref (q 0), .ref (q 1), .ref (q 2), .ref (q 3), .ref (q 4), .ref (q 5), .ref (q 6), .ref (q 7), .ref (q 8), .ref (q 9), .ref (q 10), .ref (q 11), .ref (q 12), .ref (q 13), .ref (q 14), .int 0, .int 1])), ((q 1), .inr (5, [.int 0, .int 0, .int 0, .int 0, .ref (q 20), .ref (q 21), .ref (q 22), .ref (q 23)]))] [] sz)) (va_Qi (fun (r : Int32) (_ : Unit) => r = 0) (fun (_ : Unit) (t : State) => True) (va_A [((q 15), .inr (11, [.ref (q 0), .ref (q 1), .ref (q 2), .ref (q 3), .ref (q 4), .ref (q 5), .ref (q 6), .ref (q 7), .ref (q 8), .ref (q 9), .ref (q 10), .ref (q 11), .ref (q 12), .ref (q 13), .ref (q 14), .int 0, .int 1])), ((q 1), .inr (5, [.int 0, .int 0, .int 0, .int 0, .ref (q 20), .ref (q 21), .ref (q 22), .ref (q 23)]))] sz)) 0 0 (va_A [((q 15), .inr (11, [.ref (q 0), .ref (q 1), .ref (q 2), .ref (q 3), .ref (q 4), .ref (q 5), .ref (q 6), .ref (q 7), .ref (q 8), .ref (q 9), .ref (q 10), .ref (q 11), .ref (q 12), .ref (q 13), .ref (q 14), .int 0, .int 1])), ((q 1), .inr (5, [.int 0, .int 0, .int 0, .int 0, .ref (q 20), .ref (q 21), .ref (q 22), .ref (q 23)]))] sz) := by
  refine Met.ofW (cc := cX11_areTwoWalkers) (maxL := 3) (ret := (some .boolean)) (by decide) rfl ?_
  intro p e s m args below meth c s₁ B hml hv
  obtain ⟨rfl, hsz, hP, hK, hD0, hG⟩ := hv
  have hx := B.exec
  have hb := B.bytes
  have hr := B.returns
  have hts := atoms_spec (ws := vs_f_X11_areTwoWalkers) B.pre
  have hown : s.vm.findClass RX11 = some m.cls := findClass_of_methodNamed B.named
  have hlocks := B.notSynchronized
  have hiX11 : ∀ w ∈ u_ws RX11 TX11 17, w ∈ vs_f_X11_areTwoWalkers := vs_f_X11_areTwoWalkers_uX11
  have hiX5 : ∀ w ∈ u_ws RX5 TX5 8, w ∈ vs_f_X11_areTwoWalkers := vs_f_X11_areTwoWalkers_uX5
  subst hsz
  have hD := hD0.self (sz := s.heap.size)
  generalize hAe : va_A [((q 15), .inr (11, [.ref (q 0), .ref (q 1), .ref (q 2), .ref (q 3), .ref (q 4), .ref (q 5), .ref (q 6), .ref (q 7), .ref (q 8), .ref (q 9), .ref (q 10), .ref (q 11), .ref (q 12), .ref (q 13), .ref (q 14), .int 0, .int 1])), ((q 1), .inr (5, [.int 0, .int 0, .int 0, .int 0, .ref (q 20), .ref (q 21), .ref (q 22), .ref (q 23)]))] s.heap.size = A at hD ⊢
  have hA : ∀ q : Nat, s.heap.size ≤ q → A q := fun q h => by rw [← hAe]; exact Or.inr h
  have hS : va_S A s.heap s.heap [] := va_S.rf
  have hP : va_P (dC, dI) vwCl [((q 15), .inr (11, [.ref (q 0), .ref (q 1), .ref (q 2), .ref (q 3), .ref (q 4), .ref (q 5), .ref (q 6), .ref (q 7), .ref (q 8), .ref (q 9), .ref (q 10), .ref (q 11), .ref (q 12), .ref (q 13), .ref (q 14), .int 0, .int 1])), ((q 1), .inr (5, [.int 0, .int 0, .int 0, .int 0, .ref (q 20), .ref (q 21), .ref (q 22), .ref (q 23)]))] s.heap := hP
  have hl := lv_entry ([.ref (q 15), .int p0, .int p1]) (n := 3) (Nat.le_of_ble_eq_true rfl)
  rw [lg_entry_eq]
  generalize (lg_sl ([.ref (q 15), .int p0, .int p1]) ++ List.replicate (3 - (lg_sl ([.ref (q 15), .int p0, .int p1])).length) Slot.unset).toArray = ls at hl ⊢
  have hl : lv_has ls 3 [(0, .ref (q 15)), (1, .int p0), (2, .int p1)] := hl
  refine lv_aload_n hx hb dX11_areTwoWalkers_0 rfl (lv_at hl 0 rfl) ?_
  refine lv_iload_n hx hb dX11_areTwoWalkers_1 rfl (lv_at hl 1 rfl) ?_
  have hPc := hP.sub (ws' := [((q 15), .inr (11, [.ref (q 0), .ref (q 1), .ref (q 2), .ref (q 3), .ref (q 4), .ref (q 5), .ref (q 6), .ref (q 7), .ref (q 8), .ref (q 9), .ref (q 10), .ref (q 11), .ref (q 12), .ref (q 13), .ref (q 14), .int 0, .int 1])), ((q 1), .inr (5, [.int 0, .int 0, .int 0, .int 0, .ref (q 20), .ref (q 21), .ref (q 22), .ref (q 23)]))]) [0, 1] rfl
  have hDc := hD.sub (ws' := [((q 15), .inr (11, [.ref (q 0), .ref (q 1), .ref (q 2), .ref (q 3), .ref (q 4), .ref (q 5), .ref (q 6), .ref (q 7), .ref (q 8), .ref (q 9), .ref (q 10), .ref (q 11), .ref (q 12), .ref (q 13), .ref (q 14), .int 0, .int 1])), ((q 1), .inr (5, [.int 0, .int 0, .int 0, .int 0, .ref (q 20), .ref (q 21), .ref (q 22), .ref (q 23)]))]) [0, 1] (by decide) rfl
  have hKc := hK.sub (tys' := []) [] rfl
  have hFc := va_free (wc := [((q 15), .inr (11, [.ref (q 0), .ref (q 1), .ref (q 2), .ref (q 3), .ref (q 4), .ref (q 5), .ref (q 6), .ref (q 7), .ref (q 8), .ref (q 9), .ref (q 10), .ref (q 11), .ref (q 12), .ref (q 13), .ref (q 14), .int 0, .int 1])), ((q 1), .inr (5, [.int 0, .int 0, .int 0, .int 0, .ref (q 20), .ref (q 21), .ref (q 22), .ref (q 23)]))]) hD hS hA [0, 1] rfl
  refine va_calli (va_runV (As := [.int p0]) (rest := []) ⟨hx, hb, hml, hown, hts⟩ (f_X11_isWalker l dC dI s.heap.size q p0) (cwV 1 hts g_f_X11_areTwoWalkers_f_X11_isWalker rfl rfl rfl (by decide +kernel) ⟨Nat.le_of_ble_eq_true rfl, Nat.le_of_ble_eq_true rfl⟩) ⟨cW_blind, va_recv hKc hPc (ci := 11) (q0 := 0) rfl rfl, fun U hU hW => ⟨rfl, cW_use hU hW hPc hKc hDc hG⟩⟩ rfl rfl hl.1 rfl (lv_room (Nat.le_of_ble_eq_true rfl)) dX11_areTwoWalkers_2 ⟨Nat.le_of_ble_eq_true rfl, Nat.le_of_ble_eq_true rfl⟩) hS (fun q _ h => hFc q h) hFc (fun r_1 u t H1 locs ht hvm hw hB hz1 hk1 hS => ?_)
  obtain ⟨hP, hD⟩ := va_join (wr := []) (w1 := []) hP hD [0, 1] [] rfl rfl (by decide) (by decide) hk1 hFc (va_P_nil H1) va_D_nil
  generalize H1 = H at hP hS ⊢
  have hP : va_P (dC, dI) vwCl [] H := hP
  have hD : va_D A [] := hD
  refine W.widen (k := 0) (n := 0) (Nat.le_of_ble_eq_true rfl) (Nat.le_of_ble_eq_true rfl) ?_
  obtain rfl : r_1 = 0 := hw
  refine lv_if_eq (tgt := 25) hx hb dX11_areTwoWalkers_5 (by decide) (fun c_2 => ?_) (fun c_2 => absurd (by decide) c_2)
  refine lv_iconst (v := 0) hx hb dX11_areTwoWalkers_25 (by decide) ?_
  exact W.zret (v := 0) hx hb hr rfl (fun t ht hW => ⟨⟨0, (), rfl, rfl, trivial⟩, hS.F ht⟩) hS.2.2 dX11_areTwoWalkers_26
def vs_f_X11_corner : List Cond := .code yX11_corner cX11_corner 3 (some .int) :: ([.initialized RX11, .instanceMethod yX11_isCorner, .selects RX11 yX11_isCorner yX11_isCorner, .fieldLink RX11 19 "WallChapels" "town" "LWallChapels$Plan;", .code yX11_isCorner cX11_isCorner 2 (some .boolean), .methodLink RX11 159 yX11_isCorner] ++ (u_ws RX11 TX11 17 ++ (u_ws RX5 TX5 8)))
theorem vs_f_X11_corner_uX11 : ∀ w ∈ u_ws RX11 TX11 17, w ∈ vs_f_X11_corner := fun _ h => List.mem_cons_of_mem _ (List.mem_append_right _ (List.mem_append_left _ h))
theorem vs_f_X11_corner_uX5 : ∀ w ∈ u_ws RX5 TX5 8, w ∈ vs_f_X11_corner := fun _ h => List.mem_cons_of_mem _ (List.mem_append_right _ (List.mem_append_right _ (h)))
set_option maxRecDepth 20000 in
theorem g_f_X11_corner_f_X11_isCorner : GoodIn vs_f_X11_corner (wsV RX11 159 RX11 yX11_isCorner vs_f_X11_isCorner) := goodIn_r _ [6, 2, 3, 1, 5, 4, 7, 8, 9, 10, 11, 12, 13, 14, 15, 16, 17, 18, 19, 20, 21, 22, 23, 24, 25, 26, 27, 28, 29, 30, 31] (by decide +kernel) (by decide +kernel)
set_option maxHeartbeats 4000000 in
set_option maxRecDepth 100000 in
theorem f_X11_corner (l : Launch) (dC : Nat → ClassId) (dI : Nat → Nat → Nat) (sz : Nat) (q : Nat → Nat) (p0 : Int32) (p1 : Int32) : Met l yX11_corner vs_f_X11_corner ({ frames := 1, cells := 0, slots := 0, locals := 21 }) (va_Pc [.ref (q 15), .int p0, .int p1] (cW dC dI [((q 15), .inr (11, [.ref (q 0), .ref (q 1), .ref (q 2), .ref (q 3), .ref (q 4), .ref (q 5), .ref (q 6), .ref (q 7), .ref (q 8), .ref (q 9), .ref (q 10), .ref (q 11), .ref (q 12), .ref (q 13), .ref (q 14), .int 0, .int 1])), ((q 1), .inr (5, [.int 0, .int 0, .int 0, .int 0, .ref (q 20), .ref (q 21), .ref (q 22), .ref (q 23)]))] [] sz)) (va_Qi (fun (r : Int32) (_ : Unit) => r = (-1)) (fun (_ : Unit) (t : State) => True) (va_A [((q 15), .inr (11, [.ref (q 0), .ref (q 1), .ref (q 2), .ref (q 3), .ref (q 4), .ref (q 5), .ref (q 6), .ref (q 7), .ref (q 8), .ref (q 9), .ref (q 10), .ref (q 11), .ref (q 12), .ref (q 13), .ref (q 14), .int 0, .int 1])), ((q 1), .inr (5, [.int 0, .int 0, .int 0, .int 0, .ref (q 20), .ref (q 21), .ref (q 22), .ref (q 23)]))] sz)) 0 0 (va_A [((q 15), .inr (11, [.ref (q 0), .ref (q 1), .ref (q 2), .ref (q 3), .ref (q 4), .ref (q 5), .ref (q 6), .ref (q 7), .ref (q 8), .ref (q 9), .ref (q 10), .ref (q 11), .ref (q 12), .ref (q 13), .ref (q 14), .int 0, .int 1])), ((q 1), .inr (5, [.int 0, .int 0, .int 0, .int 0, .ref (q 20), .ref (q 21), .ref (q 22), .ref (q 23)]))] sz) := by
  refine Met.ofW (cc := cX11_corner) (maxL := 3) (ret := (some .int)) (by decide) rfl ?_
  intro p e s m args below meth c s₁ B hml hv
  obtain ⟨rfl, hsz, hP, hK, hD0, hG⟩ := hv
  have hx := B.exec
  have hb := B.bytes
  have hr := B.returns
  have hts := atoms_spec (ws := vs_f_X11_corner) B.pre
  have hown : s.vm.findClass RX11 = some m.cls := findClass_of_methodNamed B.named
  have hlocks := B.notSynchronized
  have hiX11 : ∀ w ∈ u_ws RX11 TX11 17, w ∈ vs_f_X11_corner := vs_f_X11_corner_uX11
  have hiX5 : ∀ w ∈ u_ws RX5 TX5 8, w ∈ vs_f_X11_corner := vs_f_X11_corner_uX5
  subst hsz
  have hD := hD0.self (sz := s.heap.size)
  generalize hAe : va_A [((q 15), .inr (11, [.ref (q 0), .ref (q 1), .ref (q 2), .ref (q 3), .ref (q 4), .ref (q 5), .ref (q 6), .ref (q 7), .ref (q 8), .ref (q 9), .ref (q 10), .ref (q 11), .ref (q 12), .ref (q 13), .ref (q 14), .int 0, .int 1])), ((q 1), .inr (5, [.int 0, .int 0, .int 0, .int 0, .ref (q 20), .ref (q 21), .ref (q 22), .ref (q 23)]))] s.heap.size = A at hD ⊢
  have hA : ∀ q : Nat, s.heap.size ≤ q → A q := fun q h => by rw [← hAe]; exact Or.inr h
  have hS : va_S A s.heap s.heap [] := va_S.rf
  have hP : va_P (dC, dI) vwCl [((q 15), .inr (11, [.ref (q 0), .ref (q 1), .ref (q 2), .ref (q 3), .ref (q 4), .ref (q 5), .ref (q 6), .ref (q 7), .ref (q 8), .ref (q 9), .ref (q 10), .ref (q 11), .ref (q 12), .ref (q 13), .ref (q 14), .int 0, .int 1])), ((q 1), .inr (5, [.int 0, .int 0, .int 0, .int 0, .ref (q 20), .ref (q 21), .ref (q 22), .ref (q 23)]))] s.heap := hP
  have hl := lv_entry ([.ref (q 15), .int p0, .int p1]) (n := 3) (Nat.le_of_ble_eq_true rfl)
  rw [lg_entry_eq]
  generalize (lg_sl ([.ref (q 15), .int p0, .int p1]) ++ List.replicate (3 - (lg_sl ([.ref (q 15), .int p0, .int p1])).length) Slot.unset).toArray = ls at hl ⊢
  have hl : lv_has ls 3 [(0, .ref (q 15)), (1, .int p0), (2, .int p1)] := hl
  refine lv_aload_n hx hb dX11_corner_0 rfl (lv_at hl 0 rfl) ?_
  refine lv_iload_n hx hb dX11_corner_1 rfl (lv_at hl 1 rfl) ?_
  have hPc := hP.sub (ws' := [((q 15), .inr (11, [.ref (q 0), .ref (q 1), .ref (q 2), .ref (q 3), .ref (q 4), .ref (q 5), .ref (q 6), .ref (q 7), .ref (q 8), .ref (q 9), .ref (q 10), .ref (q 11), .ref (q 12), .ref (q 13), .ref (q 14), .int 0, .int 1])), ((q 1), .inr (5, [.int 0, .int 0, .int 0, .int 0, .ref (q 20), .ref (q 21), .ref (q 22), .ref (q 23)]))]) [0, 1] rfl
  have hDc := hD.sub (ws' := [((q 15), .inr (11, [.ref (q 0), .ref (q 1), .ref (q 2), .ref (q 3), .ref (q 4), .ref (q 5), .ref (q 6), .ref (q 7), .ref (q 8), .ref (q 9), .ref (q 10), .ref (q 11), .ref (q 12), .ref (q 13), .ref (q 14), .int 0, .int 1])), ((q 1), .inr (5, [.int 0, .int 0, .int 0, .int 0, .ref (q 20), .ref (q 21), .ref (q 22), .ref (q 23)]))]) [0, 1] (by decide) rfl
  have hKc := hK.sub (tys' := []) [] rfl
  have hFc := va_free (wc := [((q 15), .inr (11, [.ref (q 0), .ref (q 1), .ref (q 2), .ref (q 3), .ref (q 4), .ref (q 5), .ref (q 6), .ref (q 7), .ref (q 8), .ref (q 9), .ref (q 10), .ref (q 11), .ref (q 12), .ref (q 13), .ref (q 14), .int 0, .int 1])), ((q 1), .inr (5, [.int 0, .int 0, .int 0, .int 0, .ref (q 20), .ref (q 21), .ref (q 22), .ref (q 23)]))]) hD hS hA [0, 1] rfl
  refine va_calli (va_runV (As := [.int p0]) (rest := []) ⟨hx, hb, hml, hown, hts⟩ (f_X11_isCorner l dC dI s.heap.size q p0) (cwV 1 hts g_f_X11_corner_f_X11_isCorner rfl rfl rfl (by decide +kernel) ⟨Nat.le_of_ble_eq_true rfl, Nat.le_of_ble_eq_true rfl⟩) ⟨cW_blind, va_recv hKc hPc (ci := 11) (q0 := 0) rfl rfl, fun U hU hW => ⟨rfl, cW_use hU hW hPc hKc hDc hG⟩⟩ rfl rfl hl.1 rfl (lv_room (Nat.le_of_ble_eq_true rfl)) dX11_corner_2 ⟨Nat.le_of_ble_eq_true rfl, Nat.le_of_ble_eq_true rfl⟩) hS (fun q _ h => hFc q h) hFc (fun r_1 u t H1 locs ht hvm hw hB hz1 hk1 hS => ?_)
  obtain ⟨hP, hD⟩ := va_join (wr := []) (w1 := []) hP hD [0, 1] [] rfl rfl (by decide) (by decide) hk1 hFc (va_P_nil H1) va_D_nil
  generalize H1 = H at hP hS ⊢
  have hP : va_P (dC, dI) vwCl [] H := hP
  have hD : va_D A [] := hD
  refine W.widen (k := 0) (n := 0) (Nat.le_of_ble_eq_true rfl) (Nat.le_of_ble_eq_true rfl) ?_
  obtain rfl : r_1 = 0 := hw
  refine lv_if_ne (tgt := 10) hx hb dX11_corner_5 (by decide) (fun c_2 => absurd c_2 (by decide)) (fun c_2 => ?_)
  refine lv_iconst (v := (-1)) hx hb dX11_corner_8 (by decide) ?_
  exact W.iret (v := (-1)) hx hb hr (fun t ht hW => ⟨⟨(-1), (), rfl, rfl, trivial⟩, hS.F ht⟩) hS.2.2 dX11_corner_9
def vs_f_X11_day : List Cond := .code yX11_day cX11_day 1 (some .int) :: ([.initialized RX11, .instanceMethod yX11_hasTown, .selects RX11 yX11_hasTown yX11_hasTown, .fieldLink RX11 19 "WallChapels" "town" "LWallChapels$Plan;", .code yX11_hasTown cX11_hasTown 1 (some .boolean), .methodLink RX11 239 yX11_hasTown] ++ (u_ws RX11 TX11 17 ++ (u_ws RX5 TX5 8)))
theorem vs_f_X11_day_uX11 : ∀ w ∈ u_ws RX11 TX11 17, w ∈ vs_f_X11_day := fun _ h => List.mem_cons_of_mem _ (List.mem_append_right _ (List.mem_append_left _ h))
theorem vs_f_X11_day_uX5 : ∀ w ∈ u_ws RX5 TX5 8, w ∈ vs_f_X11_day := fun _ h => List.mem_cons_of_mem _ (List.mem_append_right _ (List.mem_append_right _ (h)))
set_option maxRecDepth 20000 in
theorem g_f_X11_day_f_X11_hasTown : GoodIn vs_f_X11_day (wsV RX11 239 RX11 yX11_hasTown vs_f_X11_hasTown) := goodIn_r _ [6, 2, 3, 1, 5, 4, 7, 8, 9, 10, 11, 12, 13, 14, 15, 16, 17, 18, 19, 20, 21, 22, 23, 24, 25, 26, 27, 28, 29, 30, 31] (by decide +kernel) (by decide +kernel)
set_option maxHeartbeats 4000000 in
set_option maxRecDepth 100000 in
theorem f_X11_day (l : Launch) (dC : Nat → ClassId) (dI : Nat → Nat → Nat) (sz : Nat) (q : Nat → Nat) : Met l yX11_day vs_f_X11_day ({ frames := 1, cells := 0, slots := 0, locals := 20 }) (va_Pc [.ref (q 15)] (cW dC dI [((q 15), .inr (11, [.ref (q 0), .ref (q 1), .ref (q 2), .ref (q 3), .ref (q 4), .ref (q 5), .ref (q 6), .ref (q 7), .ref (q 8), .ref (q 9), .ref (q 10), .ref (q 11), .ref (q 12), .ref (q 13), .ref (q 14), .int 0, .int 1])), ((q 1), .inr (5, [.int 0, .int 0, .int 0, .int 0, .ref (q 20), .ref (q 21), .ref (q 22), .ref (q 23)]))] [] sz)) (va_Qi (fun (r : Int32) (_ : Unit) => r = (-1)) (fun (_ : Unit) (t : State) => True) (va_A [((q 15), .inr (11, [.ref (q 0), .ref (q 1), .ref (q 2), .ref (q 3), .ref (q 4), .ref (q 5), .ref (q 6), .ref (q 7), .ref (q 8), .ref (q 9), .ref (q 10), .ref (q 11), .ref (q 12), .ref (q 13), .ref (q 14), .int 0, .int 1])), ((q 1), .inr (5, [.int 0, .int 0, .int 0, .int 0, .ref (q 20), .ref (q 21), .ref (q 22), .ref (q 23)]))] sz)) 0 0 (va_A [((q 15), .inr (11, [.ref (q 0), .ref (q 1), .ref (q 2), .ref (q 3), .ref (q 4), .ref (q 5), .ref (q 6), .ref (q 7), .ref (q 8), .ref (q 9), .ref (q 10), .ref (q 11), .ref (q 12), .ref (q 13), .ref (q 14), .int 0, .int 1])), ((q 1), .inr (5, [.int 0, .int 0, .int 0, .int 0, .ref (q 20), .ref (q 21), .ref (q 22), .ref (q 23)]))] sz) := by
  refine Met.ofW (cc := cX11_day) (maxL := 1) (ret := (some .int)) (by decide) rfl ?_
  intro p e s m args below meth c s₁ B hml hv
  obtain ⟨rfl, hsz, hP, hK, hD0, hG⟩ := hv
  have hx := B.exec
  have hb := B.bytes
  have hr := B.returns
  have hts := atoms_spec (ws := vs_f_X11_day) B.pre
  have hown : s.vm.findClass RX11 = some m.cls := findClass_of_methodNamed B.named
  have hlocks := B.notSynchronized
  have hiX11 : ∀ w ∈ u_ws RX11 TX11 17, w ∈ vs_f_X11_day := vs_f_X11_day_uX11
  have hiX5 : ∀ w ∈ u_ws RX5 TX5 8, w ∈ vs_f_X11_day := vs_f_X11_day_uX5
  subst hsz
  have hD := hD0.self (sz := s.heap.size)
  generalize hAe : va_A [((q 15), .inr (11, [.ref (q 0), .ref (q 1), .ref (q 2), .ref (q 3), .ref (q 4), .ref (q 5), .ref (q 6), .ref (q 7), .ref (q 8), .ref (q 9), .ref (q 10), .ref (q 11), .ref (q 12), .ref (q 13), .ref (q 14), .int 0, .int 1])), ((q 1), .inr (5, [.int 0, .int 0, .int 0, .int 0, .ref (q 20), .ref (q 21), .ref (q 22), .ref (q 23)]))] s.heap.size = A at hD ⊢
  have hA : ∀ q : Nat, s.heap.size ≤ q → A q := fun q h => by rw [← hAe]; exact Or.inr h
  have hS : va_S A s.heap s.heap [] := va_S.rf
  have hP : va_P (dC, dI) vwCl [((q 15), .inr (11, [.ref (q 0), .ref (q 1), .ref (q 2), .ref (q 3), .ref (q 4), .ref (q 5), .ref (q 6), .ref (q 7), .ref (q 8), .ref (q 9), .ref (q 10), .ref (q 11), .ref (q 12), .ref (q 13), .ref (q 14), .int 0, .int 1])), ((q 1), .inr (5, [.int 0, .int 0, .int 0, .int 0, .ref (q 20), .ref (q 21), .ref (q 22), .ref (q 23)]))] s.heap := hP
  have hl := lv_entry ([.ref (q 15)]) (n := 1) (Nat.le_of_ble_eq_true rfl)
  rw [lg_entry_eq]
  generalize (lg_sl ([.ref (q 15)]) ++ List.replicate (1 - (lg_sl ([.ref (q 15)])).length) Slot.unset).toArray = ls at hl ⊢
  have hl : lv_has ls 1 [(0, .ref (q 15))] := hl
  refine lv_aload_n hx hb dX11_day_0 rfl (lv_at hl 0 rfl) ?_
  have hPc := hP.sub (ws' := [((q 15), .inr (11, [.ref (q 0), .ref (q 1), .ref (q 2), .ref (q 3), .ref (q 4), .ref (q 5), .ref (q 6), .ref (q 7), .ref (q 8), .ref (q 9), .ref (q 10), .ref (q 11), .ref (q 12), .ref (q 13), .ref (q 14), .int 0, .int 1])), ((q 1), .inr (5, [.int 0, .int 0, .int 0, .int 0, .ref (q 20), .ref (q 21), .ref (q 22), .ref (q 23)]))]) [0, 1] rfl
  have hDc := hD.sub (ws' := [((q 15), .inr (11, [.ref (q 0), .ref (q 1), .ref (q 2), .ref (q 3), .ref (q 4), .ref (q 5), .ref (q 6), .ref (q 7), .ref (q 8), .ref (q 9), .ref (q 10), .ref (q 11), .ref (q 12), .ref (q 13), .ref (q 14), .int 0, .int 1])), ((q 1), .inr (5, [.int 0, .int 0, .int 0, .int 0, .ref (q 20), .ref (q 21), .ref (q 22), .ref (q 23)]))]) [0, 1] (by decide) rfl
  have hKc := hK.sub (tys' := []) [] rfl
  have hFc := va_free (wc := [((q 15), .inr (11, [.ref (q 0), .ref (q 1), .ref (q 2), .ref (q 3), .ref (q 4), .ref (q 5), .ref (q 6), .ref (q 7), .ref (q 8), .ref (q 9), .ref (q 10), .ref (q 11), .ref (q 12), .ref (q 13), .ref (q 14), .int 0, .int 1])), ((q 1), .inr (5, [.int 0, .int 0, .int 0, .int 0, .ref (q 20), .ref (q 21), .ref (q 22), .ref (q 23)]))]) hD hS hA [0, 1] rfl
  refine va_calli (va_runV (As := []) (rest := []) ⟨hx, hb, hml, hown, hts⟩ (f_X11_hasTown l dC dI s.heap.size q ) (cwV 0 hts g_f_X11_day_f_X11_hasTown rfl rfl rfl (by decide +kernel) ⟨Nat.le_of_ble_eq_true rfl, Nat.le_of_ble_eq_true rfl⟩) ⟨cW_blind, va_recv hKc hPc (ci := 11) (q0 := 0) rfl rfl, fun U hU hW => ⟨rfl, cW_use hU hW hPc hKc hDc hG⟩⟩ rfl rfl hl.1 rfl (lv_room (Nat.le_of_ble_eq_true rfl)) dX11_day_1 ⟨Nat.le_of_ble_eq_true rfl, Nat.le_of_ble_eq_true rfl⟩) hS (fun q _ h => hFc q h) hFc (fun r_1 u t H1 locs ht hvm hw hB hz1 hk1 hS => ?_)
  obtain ⟨hP, hD⟩ := va_join (wr := []) (w1 := []) hP hD [0, 1] [] rfl rfl (by decide) (by decide) hk1 hFc (va_P_nil H1) va_D_nil
  generalize H1 = H at hP hS ⊢
  have hP : va_P (dC, dI) vwCl [] H := hP
  have hD : va_D A [] := hD
  refine W.widen (k := 0) (n := 0) (Nat.le_of_ble_eq_true rfl) (Nat.le_of_ble_eq_true rfl) ?_
  obtain rfl : r_1 = 0 := hw
  refine lv_if_eq (tgt := 20) hx hb dX11_day_4 (by decide) (fun c_2 => ?_) (fun c_2 => absurd (by decide) c_2)
  refine lv_iconst (v := (-1)) hx hb dX11_day_20 (by decide) ?_
  exact W.iret (v := (-1)) hx hb hr (fun t ht hW => ⟨⟨(-1), (), rfl, rfl, trivial⟩, hS.F ht⟩) hS.2.2 dX11_day_21
