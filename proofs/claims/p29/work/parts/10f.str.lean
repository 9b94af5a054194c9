/-! the JDK's methods on the constants: over any world -/
set_option maxRecDepth 100000 in
theorem jw1 : (Cond.methodLink "java/lang/String" 335 yJ0_coder_7d493) ∈ lw_tbl := lwA_in (i := 1504) (by decide +kernel)
set_option maxRecDepth 100000 in
theorem jw2 : (Cond.methodLink "java/lang/String" 492 yJ0_isLatin1_aae02) ∈ lw_tbl := lwA_in (i := 1520) (by decide +kernel)
set_option maxRecDepth 100000 in
theorem jw3 : (Cond.methodLink "java/lang/String" 495 yJ1_charAt_3b067) ∈ lw_tbl := lwA_in (i := 1524) (by decide +kernel)
set_option maxRecDepth 100000 in
theorem jw4 : (Cond.methodLink "java/lang/String" 1059 yJ3_checkIndex_8e157) ∈ lw_tbl := lwA_in (i := 1532) (by decide +kernel)
set_option maxRecDepth 100000 in
theorem jw5 : (Cond.methodLink "java/lang/StringLatin1" 9 yJ0_checkIndex_df160) ∈ lw_tbl := lwA_in (i := 1527) (by decide +kernel)
set_option maxRecDepth 100000 in
theorem jw6 : (Cond.fieldLink "java/lang/String" 38 "java/lang/String" "COMPACT_STRINGS" "Z") ∈ lw_tbl := lwA_in (i := 1508) (by decide +kernel)
set_option maxRecDepth 100000 in
theorem jw7 : (Cond.fieldLink "java/lang/String" 1053 "jdk/internal/util/Preconditions" "SIOOBE_FORMATTER" "Ljava/util/function/BiFunction;") ∈ lw_tbl := lwA_in (i := 1530) (by decide +kernel)
set_option maxRecDepth 100000 in
theorem jw8 : (Cond.fieldLink "java/lang/String" 9 "java/lang/String" "value" "[B") ∈ lw_tbl := lwA_in (i := 1980) (by decide +kernel)
set_option maxRecDepth 100000 in
theorem jw9 : (Cond.fieldLink "java/lang/String" 15 "java/lang/String" "coder" "B") ∈ lw_tbl := lwA_in (i := 1981) (by decide +kernel)
set_option maxRecDepth 100000 in
theorem jwa : (Cond.selects "java/lang/String" yJ0_coder_7d493 yJ0_coder_7d493) ∈ lw_tbl := lwA_in (i := 1506) (by decide +kernel)
set_option maxRecDepth 100000 in
theorem jwb : (Cond.selects "java/lang/String" yJ0_isLatin1_aae02 yJ0_isLatin1_aae02) ∈ lw_tbl := lwA_in (i := 1522) (by decide +kernel)
set_option maxRecDepth 100000 in
theorem jwc : (Cond.static yJ1_charAt_3b067) ∈ lw_tbl := lwA_in (i := 1525) (by decide +kernel)
set_option maxRecDepth 100000 in
theorem jwd : (Cond.static yJ0_checkIndex_df160) ∈ lw_tbl := lwA_in (i := 1528) (by decide +kernel)
set_option maxRecDepth 100000 in
theorem jwe : (Cond.static yJ3_checkIndex_8e157) ∈ lw_tbl := lwA_in (i := 1533) (by decide +kernel)
set_option maxRecDepth 100000 in
theorem jwf : (Cond.instanceMethod yJ0_coder_7d493) ∈ lw_tbl := lwA_in (i := 1505) (by decide +kernel)
set_option maxRecDepth 100000 in
theorem jwg : (Cond.instanceMethod yJ0_isLatin1_aae02) ∈ lw_tbl := lwA_in (i := 1521) (by decide +kernel)
set_option maxRecDepth 100000 in
theorem jwh : (Cond.initialized "java/lang/String") ∈ lw_tbl := lwA_in (i := 162) (by decide +kernel)
set_option maxRecDepth 100000 in
theorem jwi : (Cond.initialized "java/lang/StringLatin1") ∈ lw_tbl := lwA_in (i := 163) (by decide +kernel)
set_option maxRecDepth 100000 in
theorem jwj : (Cond.initialized "jdk/internal/util/Preconditions") ∈ lw_tbl := lwA_in (i := 164) (by decide +kernel)
set_option maxRecDepth 100000 in
theorem jk1 : Cond.code yJ0_coder_7d493 cJ0_coder_7d493 1 (some .byte) ∈ lw_tbl := List.mem_of_getElem? (i := 1507) rfl
set_option maxRecDepth 100000 in
theorem jk2 : Cond.code yJ0_isLatin1_aae02 cJ0_isLatin1_aae02 1 (some .boolean) ∈ lw_tbl := List.mem_of_getElem? (i := 1523) rfl
set_option maxRecDepth 100000 in
theorem jk3 : Cond.code yJ1_charAt_3b067 cJ1_charAt_3b067 2 (some .char) ∈ lw_tbl := List.mem_of_getElem? (i := 1526) rfl
set_option maxRecDepth 100000 in
theorem jk4 : Cond.code yJ0_checkIndex_df160 cJ0_checkIndex_df160 2 none ∈ lw_tbl := List.mem_of_getElem? (i := 1529) rfl
set_option maxRecDepth 100000 in
theorem jk5 : Cond.code yJ3_checkIndex_8e157 cJ3_checkIndex_8e157 3 (some .int) ∈ lw_tbl := List.mem_of_getElem? (i := 1534) rfl
def wJ (y : MethodName) (cc : ByteArray) (n : Nat) (rt : Option FieldType) : List Cond := Cond.code y cc n rt :: alW
theorem wJ_good {y : MethodName} {cc : ByteArray} {n : Nat} {rt : Option FieldType} {y' : MethodName} {cc' : ByteArray} {n' : Nat} {rt' : Option FieldType} (h : Cond.code y cc n rt ∈ lw_tbl) : GoodIn (wJ y' cc' n' rt') (wJ y cc n rt) := by
  intro w hw
  rcases List.mem_cons.mp hw with e | hw
  · rw [e]
    exact ⟨List.mem_cons_of_mem _ (List.mem_filter.mpr ⟨h, rfl⟩), Or.inl rfl⟩
  · exact ⟨List.mem_cons_of_mem _ hw, good_of_word (good_al hw)⟩
theorem hj_of {y : MethodName} {cc : ByteArray} {n : Nat} {rt : Option FieldType} {args : Array Value} {s : State} (hts : ∀ w ∈ wJ y cc n rt, w.before args s = true) {w : Cond} (h : w ∈ lw_tbl) (g : goodWord w = true) : w.before args s = true := hts w (List.mem_cons_of_mem _ (List.mem_filter.mpr ⟨h, g⟩))
def rmz (n : Nat) : Room := { frames := n, cells := 0, slots := 0, locals := 64 * n }
theorem vk_len : ∀ i, i < 5 → ([1, 6, 2, 4, 2] : List Nat).getD i 0 = (lay (1000 + i)).2.2 ∧ ∀ j, ((([[121], [121, 119, 102, 108, 99, 100], [110, 107], [97, 98, 121, 119], [104, 102]] : List (List Int32)).getD i []).getD j 0) = cst (1000 + i) j := by
  intro i hi
  have : i = 0 ∨ i = 1 ∨ i = 2 ∨ i = 3 ∨ i = 4 := by omega
  rcases this with e | e | e | e | e <;> subst e <;> exact ⟨rfl, fun _ => rfl⟩
theorem ct_all : (List.range 5).all (fun i => (List.range 6).all (fun j => decide (((cst (1000 + i) j &&& 255).toUInt32 % 65536).toInt32 = cst (1000 + i) j) && decide (narrow .char (.int (cst (1000 + i) j)) = .int (cst (1000 + i) j)))) = true := by decide +kernel
set_option maxHeartbeats 4000000 in
set_option maxRecDepth 100000 in
theorem j_coder (l : Launch) (dC : Nat → ClassId) (dI : Nat → Nat → Nat) (cA : Nat → ClassId) (q sv : Nat → Nat) (m : xM) (sz : Nat) {i : Nat} (hi : i < 5) {n : Nat} : Met l yJ0_coder_7d493 (wJ yJ0_coder_7d493 cJ0_coder_7d493 1 (some .byte)) (rmz n) (va_Pc [.ref (q (1000 + i))] (xP dC dI cA q sv m sz)) (xQ q (fun r u => r = some (.int 0) ∧ u = m) (xB dC dI cA q) (xA q sz)) 0 0 (xA q sz) := by
  refine Met.ofW (cc := cJ0_coder_7d493) (maxL := 1) (ret := (some .byte)) (by decide) rfl ?_
  intro p e s mid args below meth c s₁ B hml hv
  obtain ⟨rfl, hsz, hP, hK, hqi, hG, hE⟩ := hv
  have hx := B.exec
  have hb := B.bytes
  have hr := B.returns
  have hts := atoms_spec (ws := wJ yJ0_coder_7d493 cJ0_coder_7d493 1 (some .byte)) B.pre
  have hown : s.vm.findClass RJ0 = some mid.cls := findClass_of_methodNamed B.named
  have hlocks := B.notSynchronized
  subst hsz
  have hS : va_S (xA q s.heap.size) s.heap s.heap [] := va_S.rf
  have hl := lv_entry ([.ref (q (1000 + i))]) (n := 1) (Nat.le_of_ble_eq_true rfl)
  rw [lg_entry_eq]
  generalize (lg_sl ([.ref (q (1000 + i))]) ++ List.replicate (1 - (lg_sl ([.ref (q (1000 + i))])).length) Slot.unset).toArray = ls at hl ⊢
  have hl : lv_has ls 1 [(0, .ref (q (1000 + i)))] := hl
  refine va_gets (C := "java/lang/String") (n := "COMPACT_STRINGS") (d := "Z") (v := .int 1) hx hb hE.2.1 hS hown (hj_of hts jw6 rfl) (fun _ h9 => h9) (show decode cJ0_coder_7d493 0 = .ok (.getstatic 38, 3) by decide +kernel) ?_
  refine lv_if_eq (tgt := 13) hx hb (show decode cJ0_coder_7d493 3 = .ok (.ifCond .eq 10, 3) by decide +kernel) (by decide) (fun c_1 => absurd c_1 (by decide)) (fun c_1 => ?_)
  refine lv_aload_n hx hb (show decode cJ0_coder_7d493 6 = .ok (.aload_n 0, 1) by decide +kernel) rfl (lv_at hl 0 rfl) ?_
  refine vk_getf (o := "java/lang/String") (n := "coder") (d := "B") (v := .int 0) hx hb (hE.1.1 i hi).2.1 hS hown (hj_of hts jw9 rfl) (fun _ h9 => h9) (show decode cJ0_coder_7d493 7 = .ok (.getfield 15, 3) by decide +kernel) ?_
  refine lv_goto (tgt := 14) hx hb (show decode cJ0_coder_7d493 10 = .ok (.goto 4, 3) by decide +kernel) (by decide) ?_
  exact W.zret (v := 0) hx hb hr rfl (fun t ht _ => ⟨⟨some (.int 0), m, rfl, ⟨rfl, rfl⟩, by show va_P _ _ _ _; rw [ht]; exact hP⟩, hS.F ht⟩) hS.2.2 (show decode cJ0_coder_7d493 14 = .ok (.ireturn, 1) by decide +kernel)
set_option maxHeartbeats 4000000 in
set_option maxRecDepth 100000 in
theorem j_latin (l : Launch) (dC : Nat → ClassId) (dI : Nat → Nat → Nat) (cA : Nat → ClassId) (q sv : Nat → Nat) (m : xM) (sz : Nat) {i : Nat} (hi : i < 5) {n : Nat} : Met l yJ0_isLatin1_aae02 (wJ yJ0_isLatin1_aae02 cJ0_isLatin1_aae02 1 (some .boolean)) (rmz n) (va_Pc [.ref (q (1000 + i))] (xP dC dI cA q sv m sz)) (xQ q (fun r u => r = some (.int 1) ∧ u = m) (xB dC dI cA q) (xA q sz)) 0 0 (xA q sz) := by
  refine Met.ofW (cc := cJ0_isLatin1_aae02) (maxL := 1) (ret := (some .boolean)) (by decide) rfl ?_
  intro p e s mid args below meth c s₁ B hml hv
  obtain ⟨rfl, hsz, hP, hK, hqi, hG, hE⟩ := hv
  have hx := B.exec
  have hb := B.bytes
  have hr := B.returns
  have hts := atoms_spec (ws := wJ yJ0_isLatin1_aae02 cJ0_isLatin1_aae02 1 (some .boolean)) B.pre
  have hown : s.vm.findClass RJ0 = some mid.cls := findClass_of_methodNamed B.named
  have hlocks := B.notSynchronized
  subst hsz
  have hS : va_S (xA q s.heap.size) s.heap s.heap [] := va_S.rf
  have hl := lv_entry ([.ref (q (1000 + i))]) (n := 1) (Nat.le_of_ble_eq_true rfl)
  rw [lg_entry_eq]
  generalize (lg_sl ([.ref (q (1000 + i))]) ++ List.replicate (1 - (lg_sl ([.ref (q (1000 + i))])).length) Slot.unset).toArray = ls at hl ⊢
  have hl : lv_has ls 1 [(0, .ref (q (1000 + i)))] := hl
  refine va_gets (C := "java/lang/String") (n := "COMPACT_STRINGS") (d := "Z") (v := .int 1) hx hb hE.2.1 hS hown (hj_of hts jw6 rfl) (fun _ h9 => h9) (show decode cJ0_isLatin1_aae02 0 = .ok (.getstatic 38, 3) by decide +kernel) ?_
  refine lv_if_eq (tgt := 17) hx hb (show decode cJ0_isLatin1_aae02 3 = .ok (.ifCond .eq 14, 3) by decide +kernel) (by decide) (fun c_1 => absurd c_1 (by decide)) (fun c_1 => ?_)
  refine lv_aload_n hx hb (show decode cJ0_isLatin1_aae02 6 = .ok (.aload_n 0, 1) by decide +kernel) rfl (lv_at hl 0 rfl) ?_
  refine vk_getf (o := "java/lang/String") (n := "coder") (d := "B") (v := .int 0) hx hb (hE.1.1 i hi).2.1 hS hown (hj_of hts jw9 rfl) (fun _ h9 => h9) (show decode cJ0_isLatin1_aae02 7 = .ok (.getfield 15, 3) by decide +kernel) ?_
  refine lv_if_ne (tgt := 17) hx hb (show decode cJ0_isLatin1_aae02 10 = .ok (.ifCond .ne 7, 3) by decide +kernel) (by decide) (fun c_2 => absurd rfl c_2) (fun c_2 => ?_)
  refine lv_iconst (v := 1) hx hb (show decode cJ0_isLatin1_aae02 13 = .ok (.iconst 1, 1) by decide +kernel) (by decide) ?_
  refine lv_goto (tgt := 18) hx hb (show decode cJ0_isLatin1_aae02 14 = .ok (.goto 4, 3) by decide +kernel) (by decide) ?_
  exact W.zret (v := 1) hx hb hr rfl (fun t ht _ => ⟨⟨some (.int 1), m, rfl, ⟨rfl, rfl⟩, by show va_P _ _ _ _; rw [ht]; exact hP⟩, hS.F ht⟩) hS.2.2 (show decode cJ0_isLatin1_aae02 18 = .ok (.ireturn, 1) by decide +kernel)
set_option maxHeartbeats 4000000 in
set_option maxRecDepth 100000 in
theorem j_pidx (l : Launch) (dC : Nat → ClassId) (dI : Nat → Nat → Nat) (cA : Nat → ClassId) (q sv : Nat → Nat) (m : xM) (sz : Nat) {x y : Int32} (h0 : ¬ x < 0) (h1 : x < y) {v : Value} (hvc : v.category = 1) {n : Nat} : Met l yJ3_checkIndex_8e157 (wJ yJ3_checkIndex_8e157 cJ3_checkIndex_8e157 3 (some .int)) (rmz n) (va_Pc [.int x, .int y, v] (xP dC dI cA q sv m sz)) (xQ q (fun r u => r = some (.int x) ∧ u = m) (xB dC dI cA q) (xA q sz)) 0 0 (xA q sz) := by
  refine Met.ofW (cc := cJ3_checkIndex_8e157) (maxL := 3) (ret := (some .int)) (by decide) rfl ?_
  intro p e s mid args below meth c s₁ B hml hv
  obtain ⟨rfl, hsz, hP, hK, hqi, hG, hE⟩ := hv
  have hx := B.exec
  have hb := B.bytes
  have hr := B.returns
  have hts := atoms_spec (ws := wJ yJ3_checkIndex_8e157 cJ3_checkIndex_8e157 3 (some .int)) B.pre
  have hown : s.vm.findClass RJ3 = some mid.cls := findClass_of_methodNamed B.named
  have hlocks := B.notSynchronized
  subst hsz
  have hS : va_S (xA q s.heap.size) s.heap s.heap [] := va_S.rf
  have hl := lv_entry ([.int x, .int y, v]) (n := 3) (by have e1 : (Value.int x).category = 1 := rfl; have e2 : (Value.int y).category = 1 := rfl; simp [lg_sl, hvc, e1, e2])
  rw [lg_entry_eq]
  generalize (lg_sl ([.int x, .int y, v]) ++ List.replicate (3 - (lg_sl ([.int x, .int y, v])).length) Slot.unset).toArray = ls at hl ⊢
  have hl : lv_has ls 3 [(0, .int x), (1, .int y), (2, v)] := hl
  refine lv_iload_n hx hb (show decode cJ3_checkIndex_8e157 0 = .ok (.iload_n 0, 1) by decide +kernel) rfl (lv_at hl 0 rfl) ?_
  refine lv_if_lt (tgt := 9) hx hb (show decode cJ3_checkIndex_8e157 1 = .ok (.ifCond .lt 8, 3) by decide +kernel) (by decide) (fun c_1 => absurd c_1 h0) (fun c_1 => ?_)
  refine lv_iload_n hx hb (show decode cJ3_checkIndex_8e157 4 = .ok (.iload_n 0, 1) by decide +kernel) rfl (lv_at hl 0 rfl) ?_
  refine lv_iload_n hx hb (show decode cJ3_checkIndex_8e157 5 = .ok (.iload_n 1, 1) by decide +kernel) rfl (lv_at hl 1 rfl) ?_
  refine lv_icmp_lt (tgt := 16) hx hb (show decode cJ3_checkIndex_8e157 6 = .ok (.if_icmp .lt 10, 3) by decide +kernel) (by decide) (fun c_2 => ?_) (fun c_2 => absurd h1 c_2)
  refine lv_iload_n hx hb (show decode cJ3_checkIndex_8e157 16 = .ok (.iload_n 0, 1) by decide +kernel) rfl (lv_at hl 0 rfl) ?_
  exact W.iret (v := x) hx hb hr (fun t ht _ => ⟨⟨some (.int x), m, rfl, ⟨rfl, rfl⟩, by show va_P _ _ _ _; rw [ht]; exact hP⟩, hS.F ht⟩) hS.2.2 (show decode cJ3_checkIndex_8e157 17 = .ok (.ireturn, 1) by decide +kernel)
set_option maxHeartbeats 4000000 in
set_option maxRecDepth 100000 in
theorem j_sidx (l : Launch) (dC : Nat → ClassId) (dI : Nat → Nat → Nat) (cA : Nat → ClassId) (q sv : Nat → Nat) (m : xM) (sz : Nat) {x y : Int32} (h0 : ¬ x < 0) (h1 : x < y) {n : Nat} : Met l yJ0_checkIndex_df160 (wJ yJ0_checkIndex_df160 cJ0_checkIndex_df160 2 none) (rmz (n + 1)) (va_Pc [.int x, .int y] (xP dC dI cA q sv m sz)) (xQ q (fun r u => r = none ∧ u = m) (xB dC dI cA q) (xA q sz)) 0 0 (xA q sz) := by
  refine Met.ofW (cc := cJ0_checkIndex_df160) (maxL := 2) (ret := none) (by decide) rfl ?_
  intro p e s mid args below meth c s₁ B hml hv
  obtain ⟨rfl, hsz, hP, hK, hqi, hG, hE⟩ := hv
  have hx := B.exec
  have hb := B.bytes
  have hr := B.returns
  have hts := atoms_spec (ws := wJ yJ0_checkIndex_df160 cJ0_checkIndex_df160 2 none) B.pre
  have hown : s.vm.findClass RJ0 = some mid.cls := findClass_of_methodNamed B.named
  have hlocks := B.notSynchronized
  subst hsz
  have hS : va_S (xA q s.heap.size) s.heap s.heap [] := va_S.rf
  have hl := lv_entry ([.int x, .int y]) (n := 2) (Nat.le_of_ble_eq_true rfl)
  rw [lg_entry_eq]
  generalize (lg_sl ([.int x, .int y]) ++ List.replicate (2 - (lg_sl ([.int x, .int y])).length) Slot.unset).toArray = ls at hl ⊢
  have hl : lv_has ls 2 [(0, .int x), (1, .int y)] := hl
  have hf : ∀ a, xA q s.heap.size a → xA q s.heap.size a := fun _ h9 => h9
  refine lv_iload_n hx hb (show decode cJ0_checkIndex_df160 0 = .ok (.iload_n 0, 1) by decide +kernel) rfl (lv_at hl 0 rfl) ?_
  refine lv_iload_n hx hb (show decode cJ0_checkIndex_df160 1 = .ok (.iload_n 1, 1) by decide +kernel) rfl (lv_at hl 1 rfl) ?_
  obtain ⟨v, hvc, hz⟩ : ∃ v : Value, v.category = 1 ∧ va_Z "jdk/internal/util/Preconditions" "SIOOBE_FORMATTER" "Ljava/util/function/BiFunction;" v (xA q s.heap.size) s s.heap := by
    rcases hE.2.2.1 with hz | ⟨t, hz⟩
    · exact ⟨_, rfl, hz⟩
    · exact ⟨_, rfl, hz⟩
  refine va_gets (C := "jdk/internal/util/Preconditions") (n := "SIOOBE_FORMATTER") (d := "Ljava/util/function/BiFunction;") (v := v) hx hb hz hS hown (hj_of hts jw7 rfl) (fun _ h9 => h9) (show decode cJ0_checkIndex_df160 2 = .ok (.getstatic 1053, 3) by decide +kernel) ?_
  refine x_call (q := q) (va_runS (As := [.int x, .int y, v]) (rest := []) ⟨hx, hb, hml, hown, hts⟩ (j_pidx l dC dI cA q sv m s.heap.size h0 h1 hvc (n := n)) ⟨callB_of 3 hts (wJ_good jk5) rfl rfl rfl (hj_of hts jwj rfl) (hj_of hts jw4 rfl) (by decide +kernel) ⟨Nat.le_refl _, by show 8 + (3 + 11) + 64 * n ≤ 64 * (n + 1); omega⟩, hj_of hts jwe rfl⟩ ⟨xP_blind, fun U hU hW => ⟨rfl, xP_use hU hW hP hK hqi hG hS hf hE⟩⟩ rfl rfl hl.1 rfl (lv_room (Nat.le_of_ble_eq_true rfl)) (show decode cJ0_checkIndex_df160 5 = .ok (.invokestatic 1059, 3) by decide +kernel) ⟨Nat.zero_le _, Nat.zero_le _⟩) hS (fun a _ h9 => hf a h9) hf (fun r9 u9 t9 H9 L9 ht9 _ hp9 hB9 _ hS9 => ?_)
  obtain ⟨e9, e8⟩ := hp9
  subst e9
  rw [e8] at hB9
  refine lv_pop (va := .int x) hx hb (show decode cJ0_checkIndex_df160 8 = .ok (.pop, 1) by decide +kernel) rfl ?_
  exact W.vret hx hb hr (fun t ht _ => ⟨⟨none, m, rfl, ⟨rfl, rfl⟩, by show va_P _ _ _ _; rw [ht, ← ht9]; exact hB9⟩, hS9.F ht⟩) hS9.2.2 (show decode cJ0_checkIndex_df160 9 = .ok (.return_, 1) by decide +kernel)
set_option maxHeartbeats 4000000 in
set_option maxRecDepth 100000 in
theorem j_lchar (l : Launch) (dC : Nat → ClassId) (dI : Nat → Nat → Nat) (cA : Nat → ClassId) (q sv : Nat → Nat) (m : xM) (sz : Nat) {i j : Nat} (hi : i < 5) (hj : j < (lay (1000 + i)).2.2) {n : Nat} : Met l yJ1_charAt_3b067 (wJ yJ1_charAt_3b067 cJ1_charAt_3b067 2 (some .char)) (rmz (n + 1 + 1)) (va_Pc [.ref (sv i), .int (nI j)] (xP dC dI cA q sv m sz)) (xQ q (fun r u => r = some (.int (cst (1000 + i) j)) ∧ u = m) (xB dC dI cA q) (xA q sz)) 0 0 (xA q sz) := by
  refine Met.ofW (cc := cJ1_charAt_3b067) (maxL := 2) (ret := (some .char)) (by decide) rfl ?_
  intro p e s mid args below meth c s₁ B hml hv
  obtain ⟨rfl, hsz, hP, hK, hqi, hG, hE⟩ := hv
  have hx := B.exec
  have hb := B.bytes
  have hr := B.returns
  have hts := atoms_spec (ws := wJ yJ1_charAt_3b067 cJ1_charAt_3b067 2 (some .char)) B.pre
  have hown : s.vm.findClass RJ1 = some mid.cls := findClass_of_methodNamed B.named
  have hlocks := B.notSynchronized
  subst hsz
  have hS : va_S (xA q s.heap.size) s.heap s.heap [] := va_S.rf
  have hl := lv_entry ([.ref (sv i), .int (nI j)]) (n := 2) (Nat.le_of_ble_eq_true rfl)
  rw [lg_entry_eq]
  generalize (lg_sl ([.ref (sv i), .int (nI j)]) ++ List.replicate (2 - (lg_sl ([.ref (sv i), .int (nI j)])).length) Slot.unset).toArray = ls at hl ⊢
  have hl : lv_has ls 2 [(0, .ref (sv i)), (1, .int (nI j))] := hl
  have hf : ∀ a, xA q s.heap.size a → xA q s.heap.size a := fun _ h9 => h9
  obtain ⟨f1, f2⟩ := vk_len i hi
  have hn6 : (lay (1000 + i)).2.2 ≤ 6 := by
    have : i = 0 ∨ i = 1 ∨ i = 2 ∨ i = 3 ∨ i = 4 := by omega
    rcases this with e | e | e | e | e <;> subst e <;> decide
  have hT := (hE.1.1 i hi).2.2.2
  rw [f1] at hT
  have hc := List.all_eq_true.mp (List.all_eq_true.mp ct_all i (List.mem_range.mpr hi)) j (List.mem_range.mpr (Nat.lt_of_lt_of_le hj hn6))
  simp only [Bool.and_eq_true, decide_eq_true_eq] at hc
  refine lv_iload_n hx hb (show decode cJ1_charAt_3b067 0 = .ok (.iload_n 1, 1) by decide +kernel) rfl (lv_at hl 1 rfl) ?_
  refine lv_aload_n hx hb (show decode cJ1_charAt_3b067 1 = .ok (.aload_n 0, 1) by decide +kernel) rfl (lv_at hl 0 rfl) ?_
  refine va_tlen hx hb hT hS (v := nI (lay (1000 + i)).2.2) rfl (show decode cJ1_charAt_3b067 2 = .ok (.arraylength, 1) by decide +kernel) ?_
  refine x_call (q := q) (va_runS (As := [.int (nI j), .int (nI (lay (1000 + i)).2.2)]) (rest := []) ⟨hx, hb, hml, hown, hts⟩ (j_sidx l dC dI cA q sv m s.heap.size (nI_pos (by omega)) (nI_lt hj (by omega)) (n := n)) ⟨callB_of 2 hts (wJ_good jk4) rfl rfl rfl (hj_of hts jwh rfl) (hj_of hts jw5 rfl) (by decide +kernel) ⟨Nat.le_refl _, by show 8 + (2 + 11) + 64 * (n + 1) ≤ 64 * ((n + 1) + 1); omega⟩, hj_of hts jwd rfl⟩ ⟨xP_blind, fun U hU hW => ⟨rfl, xP_use hU hW hP hK hqi hG hS hf hE⟩⟩ rfl rfl hl.1 rfl (lv_room (Nat.le_of_ble_eq_true rfl)) (show decode cJ1_charAt_3b067 3 = .ok (.invokestatic 9, 3) by decide +kernel) ⟨Nat.zero_le _, Nat.zero_le _⟩) hS (fun a _ h9 => hf a h9) hf (fun r9 u9 t9 H9 L9 ht9 _ hp9 hB9 _ hS9 => ?_)
  obtain ⟨e9, e8⟩ := hp9
  subst e9
  rw [e8] at hB9
  refine lv_aload_n hx hb (show decode cJ1_charAt_3b067 6 = .ok (.aload_n 0, 1) by decide +kernel) rfl (lv_at hl 0 rfl) ?_
  refine lv_iload_n hx hb (show decode cJ1_charAt_3b067 7 = .ok (.iload_n 1, 1) by decide +kernel) rfl (lv_at hl 1 rfl) ?_
  refine va_tb hx hb hT hS9 (i := nI j) (vp_in_nI hj (by omega)) (v := .int (cst (1000 + i) j)) (by rw [nI_clamp (by omega), f2]) (show decode cJ1_charAt_3b067 8 = .ok (.baload, 1) by decide +kernel) ?_
  refine lv_sipush (v := 255) hx hb (show decode cJ1_charAt_3b067 9 = .ok (.sipush 255, 3) by decide +kernel) (by decide) ?_
  refine lv_iand hx hb (show decode cJ1_charAt_3b067 12 = .ok (.iand, 1) by decide +kernel) ?_
  refine lv_i2c (v := cst (1000 + i) j) hx hb (show decode cJ1_charAt_3b067 13 = .ok (.i2c, 1) by decide +kernel) hc.1 ?_
  exact W.zret (v := cst (1000 + i) j) hx hb hr hc.2 (fun t ht _ => ⟨⟨some (.int (cst (1000 + i) j)), m, rfl, ⟨rfl, rfl⟩, by show va_P _ _ _ _; rw [ht, ← ht9]; exact hB9⟩, hS9.F ht⟩) hS9.2.2 (show decode cJ1_charAt_3b067 14 = .ok (.ireturn, 1) by decide +kernel)
set_option maxHeartbeats 4000000 in
set_option maxRecDepth 100000 in
theorem j_len (l : Launch) (dC : Nat → ClassId) (dI : Nat → Nat → Nat) (cA : Nat → ClassId) (q sv : Nat → Nat) (m : xM) (sz : Nat) {i : Nat} (hi : i < 5) {n : Nat} {post : Option Value → xM → Prop} (hpost : post (some (.int (nI (lay (1000 + i)).2.2))) m) : Met l yJ0_length_8abf5 (wJ yJ0_length_8abf5 cJ0_length_8abf5 1 (some .int)) (rmz (n + 1)) (va_Pc [.ref (q (1000 + i))] (xP dC dI cA q sv m sz)) (xQ q post (xB dC dI cA q) (xA q sz)) 0 0 (xA q sz) := by
  refine Met.ofW (cc := cJ0_length_8abf5) (maxL := 1) (ret := (some .int)) (by decide) rfl ?_
  intro p e s mid args below meth c s₁ B hml hv
  obtain ⟨rfl, hsz, hP, hK, hqi, hG, hE⟩ := hv
  have hx := B.exec
  have hb := B.bytes
  have hr := B.returns
  have hts := atoms_spec (ws := wJ yJ0_length_8abf5 cJ0_length_8abf5 1 (some .int)) B.pre
  have hown : s.vm.findClass RJ0 = some mid.cls := findClass_of_methodNamed B.named
  have hlocks := B.notSynchronized
  subst hsz
  have hS : va_S (xA q s.heap.size) s.heap s.heap [] := va_S.rf
  have hl := lv_entry ([.ref (q (1000 + i))]) (n := 1) (Nat.le_of_ble_eq_true rfl)
  rw [lg_entry_eq]
  generalize (lg_sl ([.ref (q (1000 + i))]) ++ List.replicate (1 - (lg_sl ([.ref (q (1000 + i))])).length) Slot.unset).toArray = ls at hl ⊢
  have hl : lv_has ls 1 [(0, .ref (q (1000 + i)))] := hl
  have hf : ∀ a, xA q s.heap.size a → xA q s.heap.size a := fun _ h9 => h9
  obtain ⟨f1, f2⟩ := vk_len i hi
  have hT := (hE.1.1 i hi).2.2.2
  rw [f1] at hT
  refine lv_aload_n hx hb (show decode cJ0_length_8abf5 0 = .ok (.aload_n 0, 1) by decide +kernel) rfl (lv_at hl 0 rfl) ?_
  refine vk_getf (o := "java/lang/String") (n := "value") (d := "[B") (v := .ref (sv i)) hx hb (hE.1.1 i hi).2.2.1 hS hown (hj_of hts jw8 rfl) (fun _ h9 => h9) (show decode cJ0_length_8abf5 1 = .ok (.getfield 9, 3) by decide +kernel) ?_
  refine va_tlen hx hb hT hS (v := nI (lay (1000 + i)).2.2) rfl (show decode cJ0_length_8abf5 4 = .ok (.arraylength, 1) by decide +kernel) ?_
  refine lv_aload_n hx hb (show decode cJ0_length_8abf5 5 = .ok (.aload_n 0, 1) by decide +kernel) rfl (lv_at hl 0 rfl) ?_
  refine x_call (q := q) (va_runV (As := []) (rest := [.int (nI (lay (1000 + i)).2.2)]) ⟨hx, hb, hml, hown, hts⟩ (j_coder l dC dI cA q sv m s.heap.size hi (n := n)) ⟨callB_of 0 hts (wJ_good jk1) rfl rfl rfl (hj_of hts jwh rfl) (hj_of hts jw1 rfl) (by decide +kernel) ⟨Nat.le_refl _, by show 8 + (1 + 11) + 64 * n ≤ 64 * (n + 1); omega⟩, hj_of hts jwf rfl, hj_of hts jwa rfl⟩ ⟨xP_blind, vk_recv hE.1 (i := i) hi hS, fun U hU hW => ⟨rfl, xP_use hU hW hP hK hqi hG hS hf hE⟩⟩ rfl rfl hl.1 rfl (lv_room (Nat.le_of_ble_eq_true rfl)) (show decode cJ0_length_8abf5 6 = .ok (.invokevirtual 335, 3) by decide +kernel) ⟨Nat.zero_le _, Nat.zero_le _⟩) hS (fun a _ h9 => hf a h9) hf (fun r9 u9 t9 H9 L9 ht9 _ hp9 hB9 _ hS9 => ?_)
  obtain ⟨e9, e8⟩ := hp9
  subst e9
  rw [e8] at hB9
  refine lv_ishr (x := nI (lay (1000 + i)).2.2) (y := 0) hx hb (show decode cJ0_length_8abf5 9 = .ok (.ishr, 1) by decide +kernel) ?_
  rw [sb_shr0]
  exact W.iret (v := nI (lay (1000 + i)).2.2) hx hb hr (fun t ht _ => ⟨⟨some (.int (nI (lay (1000 + i)).2.2)), m, rfl, hpost, by show va_P _ _ _ _; rw [ht, ← ht9]; exact hB9⟩, hS9.F ht⟩) hS9.2.2 (show decode cJ0_length_8abf5 10 = .ok (.ireturn, 1) by decide +kernel)
set_option maxHeartbeats 4000000 in
set_option maxRecDepth 100000 in
theorem j_char (l : Launch) (dC : Nat → ClassId) (dI : Nat → Nat → Nat) (cA : Nat → ClassId) (q sv : Nat → Nat) (m : xM) (sz : Nat) {i j : Nat} (hi : i < 5) (hj : j < (lay (1000 + i)).2.2) {n : Nat} {post : Option Value → xM → Prop} (hpost : post (some (.int (cst (1000 + i) j))) m) : Met l yJ0_charAt_5068e (wJ yJ0_charAt_5068e cJ0_charAt_5068e 2 (some .char)) (rmz (n + 1 + 1 + 1)) (va_Pc [.ref (q (1000 + i)), .int (nI j)] (xP dC dI cA q sv m sz)) (xQ q post (xB dC dI cA q) (xA q sz)) 0 0 (xA q sz) := by
  refine Met.ofW (cc := cJ0_charAt_5068e) (maxL := 2) (ret := (some .char)) (by decide) rfl ?_
  intro p e s mid args below meth c s₁ B hml hv
  obtain ⟨rfl, hsz, hP, hK, hqi, hG, hE⟩ := hv
  have hx := B.exec
  have hb := B.bytes
  have hr := B.returns
  have hts := atoms_spec (ws := wJ yJ0_charAt_5068e cJ0_charAt_5068e 2 (some .char)) B.pre
  have hown : s.vm.findClass RJ0 = some mid.cls := findClass_of_methodNamed B.named
  have hlocks := B.notSynchronized
  subst hsz
  have hS : va_S (xA q s.heap.size) s.heap s.heap [] := va_S.rf
  have hl := lv_entry ([.ref (q (1000 + i)), .int (nI j)]) (n := 2) (Nat.le_of_ble_eq_true rfl)
  rw [lg_entry_eq]
  generalize (lg_sl ([.ref (q (1000 + i)), .int (nI j)]) ++ List.replicate (2 - (lg_sl ([.ref (q (1000 + i)), .int (nI j)])).length) Slot.unset).toArray = ls at hl ⊢
  have hl : lv_has ls 2 [(0, .ref (q (1000 + i))), (1, .int (nI j))] := hl
  have hf : ∀ a, xA q s.heap.size a → xA q s.heap.size a := fun _ h9 => h9
  have hn6 : (lay (1000 + i)).2.2 ≤ 6 := by
    have : i = 0 ∨ i = 1 ∨ i = 2 ∨ i = 3 ∨ i = 4 := by omega
    rcases this with e | e | e | e | e <;> subst e <;> decide
  have hc := List.all_eq_true.mp (List.all_eq_true.mp ct_all i (List.mem_range.mpr hi)) j (List.mem_range.mpr (Nat.lt_of_lt_of_le hj hn6))
  simp only [Bool.and_eq_true, decide_eq_true_eq] at hc
  refine lv_aload_n hx hb (show decode cJ0_charAt_5068e 0 = .ok (.aload_n 0, 1) by decide +kernel) rfl (lv_at hl 0 rfl) ?_
  refine x_call (q := q) (va_runV (As := []) (rest := []) ⟨hx, hb, hml, hown, hts⟩ (j_latin l dC dI cA q sv m s.heap.size hi (n := n + 1 + 1)) ⟨callB_of 0 hts (wJ_good jk2) rfl rfl rfl (hj_of hts jwh rfl) (hj_of hts jw2 rfl) (by decide +kernel) ⟨Nat.le_refl _, by show 8 + (1 + 11) + 64 * (n + 1 + 1) ≤ 64 * ((n + 1 + 1) + 1); omega⟩, hj_of hts jwg rfl, hj_of hts jwb rfl⟩ ⟨xP_blind, vk_recv hE.1 (i := i) hi hS, fun U hU hW => ⟨rfl, xP_use hU hW hP hK hqi hG hS hf hE⟩⟩ rfl rfl hl.1 rfl (lv_room (Nat.le_of_ble_eq_true rfl)) (show decode cJ0_charAt_5068e 1 = .ok (.invokevirtual 492, 3) by decide +kernel) ⟨Nat.zero_le _, Nat.zero_le _⟩) hS (fun a _ h9 => hf a h9) hf (fun r9 u9 t9 H9 L9 ht9 _ hp9 hB9 _ hS9 => ?_)
  obtain ⟨e9, e8⟩ := hp9
  subst e9
  rw [e8] at hB9
  refine lv_if_eq (x := 1) (tgt := 16) hx hb (show decode cJ0_charAt_5068e 4 = .ok (.ifCond .eq 12, 3) by decide +kernel) (by decide) (fun c_1 => absurd c_1 (by decide)) (fun c_1 => ?_)
  refine lv_aload_n hx hb (show decode cJ0_charAt_5068e 7 = .ok (.aload_n 0, 1) by decide +kernel) rfl (lv_at hl 0 rfl) ?_
  refine vk_getf (o := "java/lang/String") (n := "value") (d := "[B") (v := .ref (sv i)) hx hb (hE.1.1 i hi).2.2.1 hS9 hown (hj_of hts jw8 rfl) (fun _ h9 => h9) (show decode cJ0_charAt_5068e 8 = .ok (.getfield 9, 3) by decide +kernel) ?_
  refine lv_iload_n hx hb (show decode cJ0_charAt_5068e 11 = .ok (.iload_n 1, 1) by decide +kernel) rfl (lv_at hl 1 rfl) ?_
  have hf2 : ∀ a, xA q H9.size a → xA q s.heap.size a := fun a h9 => h9.elim Or.inl (fun z => Or.inr (Nat.le_trans hS9.1 z))
  have hP9 : va_P (dC, dI) vwCl (wd q cA m) H9 := by rw [← ht9]; exact hB9
  refine x_call (q := q) (va_runS (As := [.ref (sv i), .int (nI j)]) (rest := []) ⟨hx, hb, hml, hown, hts⟩ (j_lchar l dC dI cA q sv m H9.size hi hj (n := n)) ⟨callB_of 2 hts (wJ_good jk3) rfl rfl rfl (hj_of hts jwi rfl) (hj_of hts jw3 rfl) (by decide +kernel) ⟨Nat.le_refl _, by show 8 + (2 + 11) + 64 * (n + 1 + 1) ≤ 64 * ((n + 1 + 1) + 1); omega⟩, hj_of hts jwc rfl⟩ ⟨xP_blind, fun U hU hW => ⟨rfl, xP_use hU hW hP9 hK hqi hG hS9 hf2 hE⟩⟩ rfl rfl hl.1 rfl (lv_room (Nat.le_of_ble_eq_true rfl)) (show decode cJ0_charAt_5068e 12 = .ok (.invokestatic 495, 3) by decide +kernel) ⟨Nat.zero_le _, Nat.zero_le _⟩) hS9 (fun a _ h9 => hf2 a h9) hf2 (fun r8 u8 t8 H8 L8 ht8 _ hp8 hB8 _ hS8 => ?_)
  obtain ⟨e9, e8⟩ := hp8
  subst e9
  rw [e8] at hB8
  exact W.zret (v := cst (1000 + i) j) hx hb hr hc.2 (fun t ht _ => ⟨⟨some (.int (cst (1000 + i) j)), m, rfl, hpost, by show va_P _ _ _ _; rw [ht, ← ht8]; exact hB8⟩, hS8.F ht⟩) hS8.2.2 (show decode cJ0_charAt_5068e 15 = .ok (.ireturn, 1) by decide +kernel)
