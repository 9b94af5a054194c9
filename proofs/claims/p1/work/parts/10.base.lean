/-! the nest links of the tables, carried from state to state; worlds in two words; facts of ints -/
def gxL : List Cond := [.methodLinkNest RX11 9 yX8_init "WallChapels", .fieldLinkNest RX11 110 "WallChapels$Tape" "length" "I" "WallChapels", .fieldLinkNest RX2 43 "WallChapels$Tape" "length" "I" "WallChapels", .fieldLinkNest RX5 69 "WallChapels$Tape" "length" "I" "WallChapels", .fieldLinkNest RX9 39 "WallChapels$Tape" "head" "I" "WallChapels", .fieldLinkNest RX2 32 "WallChapels$Tape" "wrong" "I" "WallChapels", .fieldLinkNest RX5 54 "WallChapels$Tape" "wrong" "I" "WallChapels", .methodLinkNest RX11 18 yX5_init "WallChapels", .fieldLinkNest RX10 23 "WallChapels$Plan" "corners" "I" "WallChapels", .fieldLinkNest RX1 102 "WallChapels$Plan" "corners" "I" "WallChapels", .fieldLinkNest RX11 216 "WallChapels$Plan" "corners" "I" "WallChapels", .fieldLinkNest RX10 31 "WallChapels$Plan" "streets" "I" "WallChapels", .fieldLinkNest RX7 38 "WallChapels$Plan" "streets" "I" "WallChapels", .fieldLinkNest RX11 156 "WallChapels$Plan" "streets" "I" "WallChapels", .fieldLinkNest RX6 43 "WallChapels$Plan" "walkers" "I" "WallChapels", .fieldLinkNest RX1 118 "WallChapels$Plan" "walkers" "I" "WallChapels", .fieldLinkNest RX11 219 "WallChapels$Plan" "walkers" "I" "WallChapels", .fieldLinkNest RX6 34 "WallChapels$Plan" "rules" "[I" "WallChapels", .fieldLinkNest RX6 46 "WallChapels$Plan" "walkerRows" "[[I" "WallChapels", .fieldLinkNest RX11 173 "WallChapels$Plan" "touching" "[I" "WallChapels", .methodLinkNest RX11 28 yX2_init "WallChapels", .fieldLinkNest RX3 30 "WallChapels$LawReader" "steps" "[I" "WallChapels", .fieldLinkNest RX3 35 "WallChapels$LawReader" "size" "I" "WallChapels", .methodLinkNest RX11 37 yX3_init "WallChapels", .fieldLinkNest RX11 212 "WallChapels$Laws" "number" "I" "WallChapels", .fieldLinkNest RX1 63 "WallChapels$Laws" "holding" "I" "WallChapels", .fieldLinkNest RX11 213 "WallChapels$Laws" "holding" "I" "WallChapels", .methodLinkNest RX11 44 yX9_init "WallChapels", .fieldLinkNest RX11 302 "WallChapels$Walks" "stops" "[[I" "WallChapels", .fieldLinkNest RX11 299 "WallChapels$Walks" "lengths" "[I" "WallChapels", .fieldLinkNest RX11 222 "WallChapels$Walks" "number" "I" "WallChapels", .methodLinkNest RX11 51 yX10_init "WallChapels", .methodLinkNest RX11 58 yX1_init "WallChapels", .fieldLinkNest RX11 309 "WallChapels$Custom" "chapels" "I" "WallChapels", .fieldLinkNest RX11 259 "WallChapels$Custom" "visited" "I" "WallChapels", .fieldLinkNest RX11 262 "WallChapels$Custom" "lapsed" "I" "WallChapels", .fieldLinkNest RX11 250 "WallChapels$Custom" "went" "I" "WallChapels", .methodLinkNest RX11 67 yX7_init "WallChapels", .fieldLinkNest RX11 342 "WallChapels$Sightings" "fitting" "[I" "WallChapels", .fieldLinkNest RX11 146 "WallChapels$Sightings" "number" "I" "WallChapels", .methodLinkNest RX11 74 yX6_init "WallChapels", .fieldLinkNest RX1 23 "WallChapels$Scene" "walls" "I" "WallChapels", .fieldLinkNest RX11 193 "WallChapels$Scene" "walls" "I" "WallChapels", .fieldLinkNest RX1 125 "WallChapels$Scene" "coins" "I" "WallChapels", .fieldLinkNest RX11 226 "WallChapels$Scene" "coins" "I" "WallChapels", .fieldLinkNest RX1 79 "WallChapels$Scene" "day" "I" "WallChapels", .fieldLinkNest RX11 223 "WallChapels$Scene" "day" "I" "WallChapels", .fieldLinkNest RX1 60 "WallChapels$Scene" "marks" "[I" "WallChapels", .fieldLinkNest RX11 163 "WallChapels$Scene" "marks" "[I" "WallChapels", .fieldLinkNest RX1 71 "WallChapels$Scene" "lamps" "[I" "WallChapels", .fieldLinkNest RX11 167 "WallChapels$Scene" "lamps" "[I" "WallChapels", .fieldLinkNest RX1 47 "WallChapels$Scene" "homes" "[I" "WallChapels", .fieldLinkNest RX11 206 "WallChapels$Scene" "homes" "[I" "WallChapels", .fieldLinkNest RX1 68 "WallChapels$Scene" "faith" "[I" "WallChapels", .fieldLinkNest RX11 209 "WallChapels$Scene" "faith" "[I" "WallChapels", .methodLinkNest RX11 84 yX0_init "WallChapels", .methodLinkNest RX0 17 yX6_init "WallChapels", .fieldLinkNest RX11 232 "WallChapels$Acts" "held" "I" "WallChapels", .methodLinkNest RX11 91 yX4_init "WallChapels", .methodLinkNest RX11 106 yX8_bytesOf "WallChapels", .methodLinkNest RX11 113 yX8_append "WallChapels", .methodLinkNest RX11 117 yX5_readFrom "WallChapels", .methodLinkNest RX5 45 yX8_rewind "WallChapels", .methodLinkNest RX5 57 yX8_ahead "WallChapels", .methodLinkNest RX5 82 yX8_step "WallChapels", .methodLinkNest RX5 123 yX8_refuseHere "WallChapels", .methodLinkNest RX5 130 yX8_takeNumber "WallChapels", .methodLinkNest RX5 61 yX8_take "WallChapels", .methodLinkNest RX11 121 yX2_readLaw "WallChapels", .methodLinkNest RX2 23 yX8_rewind "WallChapels", .methodLinkNest RX2 39 yX8_take "WallChapels", .methodLinkNest RX2 35 yX8_ahead "WallChapels", .methodLinkNest RX2 82 yX8_isDigit "WallChapels", .methodLinkNest RX2 85 yX8_takeNumber "WallChapels", .methodLinkNest RX2 63 yX8_step "WallChapels", .methodLinkNest RX2 73 yX8_refuseHere "WallChapels", .methodLinkNest RX11 125 yX9_readFrom "WallChapels", .methodLinkNest RX9 23 yX8_rewind "WallChapels", .methodLinkNest RX9 32 yX8_ahead "WallChapels", .methodLinkNest RX9 36 yX8_step "WallChapels", .methodLinkNest RX11 139 yX5_become "WallChapels", .methodLinkNest RX11 143 yX6_begin "WallChapels", .methodLinkNest RX6 24 yX5_wallsTold "WallChapels", .methodLinkNest RX11 149 yX0_forgetAll "WallChapels", .methodLinkNest RX11 132 yX3_addFrom "WallChapels", .methodLinkNest RX11 136 yX9_addDraft "WallChapels", .methodLinkNest RX11 236 yX5_openBehind "WallChapels", .methodLinkNest RX11 184 yX5_endA "WallChapels", .methodLinkNest RX11 187 yX5_endB "WallChapels", .methodLinkNest RX11 190 yX5_yardsOf "WallChapels", .methodLinkNest RX11 243 yX0_keep "WallChapels", .methodLinkNest RX0 22 yX6_become "WallChapels", .methodLinkNest RX11 253 yX1_lookAt "WallChapels", .methodLinkNest RX1 29 yX5_openBehind "WallChapels", .methodLinkNest RX1 35 yX5_chapelsAmong "WallChapels", .methodLinkNest RX1 41 yX10_measure "WallChapels", .methodLinkNest RX10 34 yX5_endA "WallChapels", .methodLinkNest RX10 38 yX5_endB "WallChapels", .methodLinkNest RX10 41 yX5_yardsOf "WallChapels", .methodLinkNest RX11 256 yX1_passDay "WallChapels", .methodLinkNest RX1 51 yX10_yardsBetween "WallChapels", .methodLinkNest RX1 82 yX3_tellTown "WallChapels", .methodLinkNest RX1 86 yX3_tellChapel "WallChapels", .methodLinkNest RX1 90 yX3_worth "WallChapels", .methodLinkNest RX3 73 yX2_isLetter "WallChapels", .methodLinkNest RX11 265 yX4_write "WallChapels", .methodLinkNest RX11 281 yX0_takeBack "WallChapels", .methodLinkNest RX11 285 yX4_entry "WallChapels", .methodLinkNest RX11 294 yX6_become "WallChapels", .methodLinkNest RX11 296 yX4_become "WallChapels", .methodLinkNest RX11 306 yX10_stepYards "WallChapels", .methodLinkNest RX11 312 yX10_measure "WallChapels", .methodLinkNest RX11 316 yX10_yardsBetween "WallChapels", .methodLinkNest RX11 319 yX10_leastRow "WallChapels", .methodLinkNest RX11 322 yX5_reachedFrom "WallChapels", .methodLinkNest RX11 325 yX10_planFeast "WallChapels", .methodLinkNest RX11 328 yX10_feastYards "WallChapels", .methodLinkNest RX11 331 yX10_feastRow "WallChapels", .methodLinkNest RX11 334 yX7_add "WallChapels", .methodLinkNest RX11 338 yX7_gather "WallChapels", .methodLinkNest RX7 32 yX5_openBehind "WallChapels", .methodLinkNest RX7 41 yX5_chapelsAmong "WallChapels", .methodLinkNest RX11 345 yX7_apartBy "WallChapels", .methodLinkNest RX11 348 yX5_chapelsAmong "WallChapels", .methodLinkNest RX11 351 yX1_pullOn "WallChapels", .methodLinkNest RX11 355 yX1_goalOf "WallChapels", .methodLinkNest RX11 363 yX1_hasAt "WallChapels", .methodLinkNest RX11 367 yX1_stays "WallChapels", .methodLinkNest RX11 373 yX1_canCome "WallChapels", .methodLinkNest RX11 379 yX5_bridgesAmong "WallChapels", .methodLinkNest RX11 382 yX5_partsBy "WallChapels", .methodLinkNest RX11 403 yX10_farthestFrom "WallChapels", .methodLinkNest RX11 397 yX5_lengthOf "WallChapels"]
def gx_is : Cond → Bool
  | .fieldLinkNest .. => true
  | .methodLinkNest .. => true
  | _ => false
theorem gx_is_on : ∀ w : Cond, gx_is w = true → w.onTables = true := by
  intro w
  cases w <;> first | (intro h; cases h; done) | (intro _; rfl)
theorem gx_is_warm {s U : State} (hW : s.WarmedH U.vm) : ∀ w : Cond, gx_is w = true → va_Nw w s → va_Nw w U := by
  intro w
  cases w <;> first | (intro h; cases h; done) | exact fun _ hZ => va_Nw.warmF hW hZ | exact fun _ hZ => va_Nw.warmM hW hZ
theorem gxL_is : ∀ w ∈ gxL, gx_is w = true := List.all_eq_true.mp (by decide +kernel)
def gxP (U : State) : Prop := (∀ w ∈ gxL, va_Nw w U) ∧ va_AOA .int U ∧ va_AO "WallChapels$Scene" U
theorem gx_same {u U : State} (h : u.vm = U.vm) (hG : gxP u) : gxP U := ⟨fun w hw => va_Nw.same (gx_is_on w (gxL_is w hw)) h (hG.1 w hw), aoa_moved (by rw [h]; exact Vm.Alike.refl _) hG.2.1, va_AO.moved (by rw [h]; exact Vm.Alike.refl _) hG.2.2⟩
theorem gx_warm {s U : State} (hW : s.WarmedH U.vm) (hG : gxP s) : gxP U := ⟨fun w hw => gx_is_warm hW w (gxL_is w hw) (hG.1 w hw), aoa_moved hW.alike hG.2.1, va_AO.moved hW.alike hG.2.2⟩
theorem gx_n {U : State} (hG : gxP U) (i : Nat) {w : Cond} (hi : gxL[i]? = some w) : va_Nw w U := hG.1 w (List.mem_of_getElem? hi)
theorem gx_u {U : State} (hG : gxP U) {A : Array Value} (i : Nat) {w : Cond} (hi : gxL[i]? = some w) (hw : w.onTables = true) : w.before A U = true := va_Nw.use hw (gx_n hG i hi)
def cW (dC : Nat → ClassId) (dI : Nat → Nat → Nat) (W : va_W) (T : List (ClassId × FieldType)) (sz : Nat) (U : State) : Prop := U.heap.size = sz ∧ va_P (dC, dI) vwCl W U.heap ∧ va_K (dC, dI) vwCl T U ∧ va_D (fun _ => True) W ∧ gxP U
def cB (dC : Nat → ClassId) (dI : Nat → Nat → Nat) (A : Nat → Prop) (W : va_W) (T : List (ClassId × FieldType)) (t : State) : Prop := va_P (dC, dI) vwCl W t.heap ∧ va_K (dC, dI) vwCl T t ∧ va_D A W
theorem cW_blind {dC : Nat → ClassId} {dI : Nat → Nat → Nat} {W : va_W} {T : List (ClassId × FieldType)} {sz : Nat} {av : List Value} : FrameBlind (va_Pc av (cW dC dI W T sz)) := fun a U g mk q => by
  obtain ⟨q0, q1, qP, qK, qD, qG⟩ := q
  exact ⟨q0, q1, qP, va_K.moved (u := U) (U := U.calling g mk a) (Vm.Alike.refl U.vm) qK, qD, gx_same (u := U) (U := U.calling g mk a) rfl qG⟩
theorem cW_use {dC : Nat → ClassId} {dI : Nat → Nat → Nat} {W : va_W} {T : List (ClassId × FieldType)} {A : Nat → Prop} {s U : State} {H : Heap} (hU : U.heap = H) (hW : s.WarmedH U.vm) (hP : va_P (dC, dI) vwCl W H) (hK : va_K (dC, dI) vwCl T s) (hD : va_D A W) (hG : gxP s) : cW dC dI W T H.size U :=
  ⟨by rw [hU], by rw [hU]; exact hP, va_K.moved hW.alike hK, hD.weaken (fun _ _ _ _ => trivial), gx_warm hW hG⟩
section MNA
variable {p : Program} {l : Launch} {e : Env} {R : Room} {s : State} {m : MethodId} {args : Array Value} {below : List Frame} {meth : Method} {c : Code} {H : Heap} {locs : List Loc} {cells slots : Nat} {Q : State → Prop}
variable {pc : Nat} {ls : Array Slot} {rest : List Value} {D : va_G} {cl : List vw_C} {A : Nat → Prop} {tys : List (ClassId × FieldType)} {H0 : Heap}
/-- new int[n][k], of which nothing is kept but that it is there -/
theorem mna0 {X : va_W} {cc : ByteArray} (hexec : p.tables.exec = Jvm.exec) (hb : c.code = cc) {own : String} {index : Nat} (hown : s.vm.findClass own = some m.cls) (hclink : (Cond.classLink own index "[[I").before args s = true) (hG : gxP s) (harr : (Cond.arrayClass .int).before args s = true)
    (hK : va_K D cl tys s) (hP : va_P D cl X H) (hD : va_D A X) (hS : va_S A H0 H locs) (hA : ∀ q, H0.size ≤ q → A q) {n k : Int32} {N' K' : Nat} (hn : ¬ n < 0) (hk : ¬ k < 0) (hN : n.toNatClampNeg = N') (hM : k.toNatClampNeg = K')
    (hb1 : N' * 4 ≤ 536870912) (hb2 : K' * 4 ≤ 536870912) (hb3 : K' ≤ 536870912) (hcells : cells + (1 + N') ≤ R.cells) (hslots : slots + (N' + N' * K') ≤ R.slots) (hdg : decode cc pc = .ok (.multianewarray index 2, 4))
    (kk : ∀ (q : Nat) (H1 : Heap), va_P D cl X H1 → va_D A X → va_S A H0 H1 locs → W p l e R s m args below meth c H1 locs (cells + 1 + N') (slots + N' + N' * K') Q (F0 m (pc + 4) ls (.ref q :: rest))) : W p l e R s m args below meth c H locs cells slots Q (F0 m pc ls (.int k :: .int n :: rest)) := by
  obtain ⟨cy, kA, comp, h1, h2, h3⟩ := Cond.arrayClass_spec harr
  have hnil : ∀ f : Nat → va_E, X ++ va_pl [] f = X := fun f => List.append_nil X
  have e : ("[" ++ (FieldType.array .int).toString) = "[[I" := by decide +kernel
  refine va_mna (X := X) (L := []) (f := fun _ => .inl (0, 0, .inl (fun _ => 0))) (ty := .int) (cy := cy) (z := (K', .inl (fun _ => 0))) hexec hb hown (by rw [e]; exact hclink) hG.2.1 harr h1 hK (by rw [hnil]; exact hP) (by rw [hnil]; exact hD) hS hA hn hk hN hM hb1 hb2 hb3 rfl rfl hcells hslots (fun c9 => ?_) hdg (fun q r cA H1 _ _ _ hP1 hD1 hS1 => ?_)
  · show Jvm.Free.Multi.innerC c9 K' (.int 0) = arrV c9 K' (fun _ => .int 0)
    rw [← arrV_new]
    rfl
  · refine kk q H1 (fun i x hx => hP1 i x ?_) ⟨fun i j x y hx hy hxy => hD1.1 i j x y ?_ ?_ hxy, fun i x hx => hD1.2 i x ?_⟩ hS1 <;> (rw [List.append_assoc]; rw [List.getElem?_append_left (List.getElem?_eq_some_iff.mp (by assumption)).1]; assumption)
end MNA
theorem va_P_nil {D : va_G} {cl : List vw_C} (H : Heap) : va_P D cl [] H := fun k q h => by simp at h
theorem va_D_nil {A : Nat → Prop} : va_D A [] := ⟨fun i j p q h => by simp at h, fun k q h => by simp at h⟩
theorem i_lt (x y : Int32) : x < y ↔ x.toInt < y.toInt := Int32.lt_iff_toInt_lt
theorem i_le (x y : Int32) : x ≤ y ↔ x.toInt ≤ y.toInt := Int32.le_iff_toInt_le
theorem i_eq (x y : Int32) : x = y ↔ x.toInt = y.toInt := Int32.toInt_inj.symm
def mF (r : Nat → Nat) (v0 v6 v8 v9 v10 v11 v12 v13 v14 v17 v28 v29 v31 v34 v35 : Int32) : List Value := [.int v0, .ref (r 1), .ref (r 2), .ref (r 3), .ref (r 4), .ref (r 1), .int v6, .int 0, .int v8, .int v9, .int v10, .int v11, .int v12, .int v13, .int v14, .ref (r 15), .ref (r 16), .int v17, .ref (r 18), .ref (r 19), .ref (r 20), .ref (r 21), .ref (r 22), .ref (r 23), .ref (r 24), .int 0, .int 0, .int 0, .int v28, .int v29, .int 0, .int v31, .ref (r 32), .ref (r 33), .int v34, .int v35, .ref (r 36), .ref (r 37), .ref (r 38), .int 0, .int 0, .ref (r 41), .int 0, .long 0, .int 0, .int 0, .int 0, .int 0, .int 0, .int 0, .ref (r 50), .int 0, .ref (r 52), .int 0]
def xF (q : Nat → Nat) (v15 v16 : Int32) : List Value := [.ref (q 0), .ref (q 1), .ref (q 2), .ref (q 3), .ref (q 4), .ref (q 5), .ref (q 6), .ref (q 7), .ref (q 8), .ref (q 9), .ref (q 10), .ref (q 11), .ref (q 12), .ref (q 13), .ref (q 14), .int v15, .int v16]
theorem i_zm1000000 : (-1000000 : Int32).toInt = -1000000 := by decide
theorem i_zm30 : (-30 : Int32).toInt = -30 := by decide
theorem i_zm20 : (-20 : Int32).toInt = -20 := by decide
theorem i_zm2 : (-2 : Int32).toInt = -2 := by decide
theorem i_zm1 : (-1 : Int32).toInt = -1 := by decide
theorem i_z0 : (0 : Int32).toInt = 0 := by decide
theorem i_z1 : (1 : Int32).toInt = 1 := by decide
theorem i_z2 : (2 : Int32).toInt = 2 := by decide
theorem i_z3 : (3 : Int32).toInt = 3 := by decide
theorem i_z4 : (4 : Int32).toInt = 4 := by decide
theorem i_z5 : (5 : Int32).toInt = 5 := by decide
theorem i_z6 : (6 : Int32).toInt = 6 := by decide
theorem i_z7 : (7 : Int32).toInt = 7 := by decide
theorem i_z8 : (8 : Int32).toInt = 8 := by decide
theorem i_z9 : (9 : Int32).toInt = 9 := by decide
theorem i_z10 : (10 : Int32).toInt = 10 := by decide
theorem i_z11 : (11 : Int32).toInt = 11 := by decide
theorem i_z12 : (12 : Int32).toInt = 12 := by decide
theorem i_z13 : (13 : Int32).toInt = 13 := by decide
theorem i_z14 : (14 : Int32).toInt = 14 := by decide
theorem i_z15 : (15 : Int32).toInt = 15 := by decide
theorem i_z16 : (16 : Int32).toInt = 16 := by decide
theorem i_z17 : (17 : Int32).toInt = 17 := by decide
theorem i_z18 : (18 : Int32).toInt = 18 := by decide
theorem i_z19 : (19 : Int32).toInt = 19 := by decide
theorem i_z20 : (20 : Int32).toInt = 20 := by decide
theorem i_z21 : (21 : Int32).toInt = 21 := by decide
theorem i_z22 : (22 : Int32).toInt = 22 := by decide
theorem i_z23 : (23 : Int32).toInt = 23 := by decide
theorem i_z24 : (24 : Int32).toInt = 24 := by decide
theorem i_z30 : (30 : Int32).toInt = 30 := by decide
theorem i_z32 : (32 : Int32).toInt = 32 := by decide
theorem i_z40 : (40 : Int32).toInt = 40 := by decide
theorem i_z41 : (41 : Int32).toInt = 41 := by decide
theorem i_z50 : (50 : Int32).toInt = 50 := by decide
theorem i_z58 : (58 : Int32).toInt = 58 := by decide
theorem i_z59 : (59 : Int32).toInt = 59 := by decide
theorem i_z60 : (60 : Int32).toInt = 60 := by decide
theorem i_z63 : (63 : Int32).toInt = 63 := by decide
theorem i_z99 : (99 : Int32).toInt = 99 := by decide
theorem i_z100 : (100 : Int32).toInt = 100 := by decide
theorem i_z240 : (240 : Int32).toInt = 240 := by decide
theorem i_z255 : (255 : Int32).toInt = 255 := by decide
theorem i_z999 : (999 : Int32).toInt = 999 := by decide
