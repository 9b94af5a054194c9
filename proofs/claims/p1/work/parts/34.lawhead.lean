/-! THE CLAIM OUT OF ONE WALK OF THE LAW'S BODY. Your part is whole_start (and what it stands on); all else here is the same for every law, but numbers. -/
def R_law : String := "WallChapelsLaw"
def lw_P (b : Addr) (xs : List Int32) (args : Array Value) (s : State) : Prop := args = #[.ref b] ∧ s.IntsAt b xs ∧ xs.length ≤ 6 ∧ (Jvm.Cond.and given_1 narrow_1).before args s = true
def lw_Q (_ : Array Value) (s : State) (o : Outcome) (t : State) : Prop := o = .returned (some (.int 1)) ∧ Framed s o t [] 600002 7302232
def lw_Z (below : List Frame) (a : Array Value) (s : State) : State → Prop := fun t => ∃ o, t.status = .running ∧ Ended t below o ∧ lw_Q a s o t
/-- the law's own end, with 1 on the stack, nothing written that was there before, its room as the claim has it -/
theorem lw_ret {p : Program} {l : Launch} {e : Env} {s : State} {m : MethodId} {below : List Frame} {meth : Method} {c : Code} {b : Nat} (hx : p.tables.exec = Jvm.exec) (hb : c.code = code) (hr : meth.sig.returnType = ret) (hlocks : meth.locks = false) {pc : Nat} {H : Heap} {ls : Array Slot} (hdg : decode code pc = .ok (.ireturn, 1)) : W p l e room_1 s m #[Value.ref b] below meth c H [] 600002 7302232 (lw_Z below #[Value.ref b] s) (F0 m pc ls [.int 1]) := by
  intro T hT X
  obtain ⟨fs, hret, hrun, hended, hW, hframe⟩ := X.leave (v := some (.int 1)) (hlocks := hlocks) (fun h => by rw [hr] at h; cases h)
  have hmeth' : T.vm.method? m = some meth := X.method'
  refine ⟨T.setFrames fs, ?_, .returned (some (.int 1)), hrun, hended, rfl, ⟨_, rfl⟩, hW, hframe⟩
  jvm_step X.here [X.here.top, hx, hb, hdg, hmeth', hr, ret, narrow_b1]
  (try refine ⟨rfl, ?_⟩); (try refine ⟨rfl, ?_⟩)
  first | (intro acts; rw [hret _ acts rfl rfl rfl]) | rw [hret _ _ rfl rfl rfl]
  exact Steps.refl _
/-- what holds at the law's entry: the machine, the code, the tables' words (any of lw_tbl by 'hts w (by decide +kernel)'), the script of L ints xs at the cell b, what the Statement gives of the start (any of its parts by flat_of_before) -/
def lw_At (p : Program) (s : State) (m : MethodId) (meth : Method) (c : Code) (b L : Nat) (xs : Nat → Int32) : Prop :=
  p.tables.exec = Jvm.exec ∧ c.code = code ∧ meth.sig.returnType = ret ∧ c.maxLocals = 7 ∧ s.vm.findClass R_law = some m.cls ∧ (∀ w ∈ lw_tbl, w.before #[Value.ref b] s = true) ∧ va_X b L xs s s.heap ∧ b < s.heap.size ∧ meth.locks = false ∧ (Jvm.Cond.and given_1 narrow_1).before #[Value.ref b] s = true
theorem mem_r {big ws : List Cond} (ps : List Nat) (hp : ws = ps.filterMap (fun i => big[i]?)) : ∀ w ∈ ws, w ∈ big := by
  intro w hw
  rw [hp] at hw
  obtain ⟨i, -, hi⟩ := List.mem_filterMap.mp hw
  first | exact List.mem_of_getElem? hi | exact List.getElem?_mem hi
set_option maxRecDepth 20000 in
theorem gx_in : ∀ w ∈ gxL, w ∈ lw_tbl := mem_r [182, 187, 188, 190, 191, 193, 194, 208, 215, 216, 217, 219, 220, 221, 223, 224, 225, 228, 231, 233, 253, 259, 261, 271, 281, 283, 284, 318, 324, 326, 330, 344, 364, 372, 374, 376, 378, 396, 403, 406, 424, 429, 430, 432, 433, 435, 436, 438, 439, 441, 442, 444, 445, 447, 448, 466, 472, 476, 486, 556, 559, 571, 584, 592, 600, 616, 620, 644, 666, 670, 675, 676, 689, 690, 698, 699, 719, 723, 724, 725, 735, 739, 743, 747, 751, 756, 773, 791, 792, 793, 825, 829, 839, 843, 844, 849, 854, 855, 856, 862, 879, 884, 888, 892, 904, 923, 970, 978, 986, 987, 1004, 1016, 1017, 1022, 1034, 1038, 1055, 1059, 1079, 1087, 1091, 1092, 1101, 1112, 1121, 1126, 1139, 1147, 1157, 1167, 1172, 1192, 1197] (by decide +kernel)
set_option maxRecDepth 20000 in
theorem in_X0 : ∀ w ∈ u_ws RX0 TX0 3, w ∈ lw_tbl := mem_r [477, 479, 481] (by decide +kernel)
set_option maxRecDepth 20000 in
theorem in_X1 : ∀ w ∈ u_ws RX1 TX1 7, w ∈ lw_tbl := mem_r [379, 381, 383, 385, 387, 389, 391] (by decide +kernel)
set_option maxRecDepth 20000 in
theorem in_X2 : ∀ w ∈ u_ws RX2 TX2 3, w ∈ lw_tbl := mem_r [262, 264, 266] (by decide +kernel)
set_option maxRecDepth 20000 in
theorem in_X3 : ∀ w ∈ u_ws RX3 TX3 12, w ∈ lw_tbl := mem_r [291, 293, 295, 297, 299, 301, 303, 305, 307, 309, 311, 313] (by decide +kernel)
set_option maxRecDepth 20000 in
theorem in_X4 : ∀ w ∈ u_ws RX4 TX4 3, w ∈ lw_tbl := mem_r [493, 495, 497] (by decide +kernel)
set_option maxRecDepth 20000 in
theorem in_X5 : ∀ w ∈ u_ws RX5 TX5 8, w ∈ lw_tbl := mem_r [234, 236, 238, 240, 242, 244, 246, 248] (by decide +kernel)
set_option maxRecDepth 20000 in
theorem in_X6 : ∀ w ∈ u_ws RX6 TX6 7, w ∈ lw_tbl := mem_r [449, 451, 453, 455, 457, 459, 461] (by decide +kernel)
set_option maxRecDepth 20000 in
theorem in_X7 : ∀ w ∈ u_ws RX7 TX7 6, w ∈ lw_tbl := mem_r [408, 410, 412, 414, 416, 418] (by decide +kernel)
set_option maxRecDepth 20000 in
theorem in_X8 : ∀ w ∈ u_ws RX8 TX8 4, w ∈ lw_tbl := mem_r [196, 198, 200, 202] (by decide +kernel)
set_option maxRecDepth 20000 in
theorem in_X9 : ∀ w ∈ u_ws RX9 TX9 5, w ∈ lw_tbl := mem_r [331, 333, 335, 337, 339] (by decide +kernel)
set_option maxRecDepth 20000 in
theorem in_X10 : ∀ w ∈ u_ws RX10 TX10 4, w ∈ lw_tbl := mem_r [353, 355, 357, 359] (by decide +kernel)
set_option maxRecDepth 20000 in
theorem in_X11 : ∀ w ∈ u_ws RX11 TX11 17, w ∈ lw_tbl := mem_r [517, 519, 521, 523, 525, 527, 529, 531, 533, 535, 537, 539, 541, 543, 545, 547, 549] (by decide +kernel)
set_option maxRecDepth 20000 in
theorem in_X12 : ∀ w ∈ u_ws RX12 TX12 54, w ∈ lw_tbl := mem_r [1342, 1344, 1346, 1348, 1350, 1352, 1354, 1356, 1358, 1360, 1362, 1364, 1366, 1368, 1370, 1372, 1374, 1376, 1378, 1380, 1382, 1384, 1386, 1388, 1390, 1392, 1394, 1396, 1398, 1400, 1402, 1404, 1406, 1408, 1410, 1412, 1414, 1416, 1418, 1420, 1422, 1424, 1426, 1428, 1430, 1432, 1434, 1436, 1438, 1440, 1442, 1444, 1446, 1448] (by decide +kernel)
set_option maxRecDepth 20000 in
theorem xg_in : GoodIn lw_tbl xg := goodIn_r _ [168, 1236, 1245, 1247, 1250, 1252, 1237, 1238, 178, 179, 1239, 1244, 1248, 1268, 1226, 1269, 1228, 1270, 1230, 1240, 1242, 1232, 1264, 1265, 1267, 1232, 1255, 1256, 1257, 1258, 1258, 1259, 1260, 1261, 1261, 1262, 1263, 1264, 1254, 1215, 1223, 1224, 1225, 1227, 1229, 1231, 1235, 1234, 1233] (by decide +kernel) xg_good
theorem st_gx {s : State} {b : Nat} (hts : ∀ w ∈ lw_tbl, w.before #[Value.ref b] s = true) : gxP s := ⟨fun w hw => va_Nw.of (gx_is_on w (gxL_is w hw)) (hts w (gx_in w hw)), aoa_of (hts (.arrayOver (.array .int)) (List.mem_of_getElem? (i := 213) (by decide +kernel))), va_AO.of (hts (.arrayOver (.object "WallChapels$Scene")) (List.mem_of_getElem? (i := 471) (by decide +kernel)))⟩
set_option maxRecDepth 20000 in
set_option maxHeartbeats 4000000 in
theorem st_ex {s : State} {b : Nat} (hts : ∀ w ∈ lw_tbl, w.before #[Value.ref b] s = true) (hgv : (Jvm.Cond.and given_1 narrow_1).before #[Value.ref b] s = true) : ∃ (sk sv : Nat → Nat) (s2 tz : Nat), exP sk sv s2 tz (fun q : Nat => s.heap.size ≤ q) s s.heap := by
  have hs := flat_of_before _ hgv
  have hA : ∀ a : Nat, a < s.heap.size → ¬ (fun q : Nat => s.heap.size ≤ q) a := fun a h => Nat.not_le.mpr h
  obtain ⟨sk, sv, hS, hS2⟩ := vk_Sof (args := #[Value.ref b]) (s := s) (N := 1) (tm := fun _ => Term.string "WallChapelsModel" 26) (len := [1]) (byt := [[121]]) (A := fun q : Nat => s.heap.size ≤ q)
    (fun i hi => by obtain rfl : i = 0 := by omega
                    decide)
    (fun i hi => hs _ (by decide +kernel)) (fun i hi => hs _ (by decide +kernel)) (fun i hi => hs _ (by decide +kernel))
    (fun i hi => by obtain rfl : i = 0 := by omega
                    exact hs _ (by decide +kernel))
    (fun i hi j hj => by obtain rfl : i = 0 := by omega
                         obtain rfl : j = 0 := by simp at hj; omega
                         exact hs _ (by decide +kernel))
    (fun i j hi hj hij => absurd (by omega) hij) hA
  obtain ⟨a2, -, -, -, q2, -⟩ := Cond.exactly_spec (args := #[Value.ref b]) (first := s) (o := none) (s := s) (idx := []) (t := Term.string "WallChapelsModel" 32) (cls := "java/lang/String") (hs _ (by decide +kernel))
  obtain ⟨tz, ht, hT⟩ := va_Tof (args := #[Value.ref b]) (s := s) (tm := Term.static "WallChapels$Plan" "RULE_WITHOUT" "[I") (ty := .int) (N := 2) (f := fun j => .int (if j = 0 then 4 else 20)) (A := fun q : Nat => s.heap.size ≤ q) (by decide) (hs _ (by decide +kernel)) (va_eqt (hs _ (by decide +kernel)))
    (fun j hj => by
      rcases (show j = 0 ∨ j = 1 by omega) with rfl | rfl
      · exact va_eqt (z := 4) (hs _ (by decide +kernel))
      · exact va_eqt (z := 20) (hs _ (by decide +kernel))) hA
  refine ⟨sk, sv, a2, tz, ⟨hS, va_Zof (hts (.laysStatic "java/lang/String" "COMPACT_STRINGS" "Z") (List.mem_of_getElem? (i := 1513) (by decide +kernel))) (hts (.initialized RJ0) (List.mem_of_getElem? (i := 162) (by decide +kernel))) (va_eqi (hs _ (by decide +kernel))) hA, va_Zqof (hts (.laysStatic "jdk/internal/util/Preconditions" "SIOOBE_FORMATTER" "Ljava/util/function/BiFunction;") (List.mem_of_getElem? (i := 1535) (by decide +kernel))) (hts (.initialized RJ3) (List.mem_of_getElem? (i := 164) (by decide +kernel))) (hs _ (by decide +kernel)) hA, va_Zof (hts (.laysStatic "WallChapels$Plan" "RULE_WITHOUT" "[I") (List.mem_of_getElem? (i := 580) (by decide +kernel))) (hts (.initialized RX5) (List.mem_of_getElem? (i := 150) (by decide +kernel))) ht hA, hT⟩, vk_R.of (hts (.stringRef RX12 26 "y") (List.mem_of_getElem? (i := 1286) (by decide +kernel))) (hS2 0 (by decide)), vk_R.of (hts (.stringRef RX12 32 "ywflcd") (List.mem_of_getElem? (i := 1287) (by decide +kernel))) q2⟩
set_option maxRecDepth 20000 in
set_option maxHeartbeats 4000000 in
theorem st_tp {s : State} {b : Nat} (hts : ∀ w ∈ lw_tbl, w.before #[Value.ref b] s = true) (hgv : (Jvm.Cond.and given_1 narrow_1).before #[Value.ref b] s = true) : ∃ s3 : Nat, tP s3 (fun q : Nat => s.heap.size ≤ q) s s.heap := by
  have hs := flat_of_before _ hgv
  have hA : ∀ a : Nat, a < s.heap.size → ¬ (fun q : Nat => s.heap.size ≤ q) a := fun a h => Nat.not_le.mpr h
  obtain ⟨a3, -, -, -, q3, -⟩ := Cond.exactly_spec (args := #[Value.ref b]) (first := s) (o := none) (s := s) (idx := []) (t := Term.string "WallChapels" 201) (cls := "java/lang/String") (hs _ (by decide +kernel))
  refine ⟨a3, ⟨vx_Zqof (hts (.laysStatic "java/lang/Throwable" "UNASSIGNED_STACK" "[Ljava/lang/StackTraceElement;") (List.mem_of_getElem? (i := 1241) (by decide +kernel))) (hts (.initialized "java/lang/Throwable") (List.mem_of_getElem? (i := 168) (by decide +kernel))) (hs _ (by decide +kernel)) hA, vx_Zqof (hts (.laysStatic "java/lang/Throwable" "SUPPRESSED_SENTINEL" "Ljava/util/List;") (List.mem_of_getElem? (i := 1243) (by decide +kernel))) (hts (.initialized "java/lang/Throwable") (List.mem_of_getElem? (i := 168) (by decide +kernel))) (hs _ (by decide +kernel)) hA⟩, vk_R.of (hts (.stringRef RX11 201 "no such walker, or nothing of him by that number") (List.mem_of_getElem? (i := 1253) (by decide +kernel))) q3, va_Nw.of rfl (hts (.castable "java/util/NoSuchElementException" "java/util/NoSuchElementException") (List.mem_of_getElem? (i := 1216) (by decide +kernel))), va_Nw.of rfl (hts (.declares ⟨"java/lang/RuntimeException", "<init>", "(Ljava/lang/String;)V"⟩) (List.mem_of_getElem? (i := 1218) (by decide +kernel))), va_Nw.of rfl (hts (.declares ⟨"java/lang/Exception", "<init>", "(Ljava/lang/String;)V"⟩) (List.mem_of_getElem? (i := 1220) (by decide +kernel))), va_Nw.of rfl (hts (.declares ⟨"java/lang/Throwable", "<init>", "(Ljava/lang/String;)V"⟩) (List.mem_of_getElem? (i := 1222) (by decide +kernel)))⟩
