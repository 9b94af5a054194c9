set_option maxRecDepth 20000 in
theorem dL_law_981 : decode cL_law 981 = .ok (.aload_n 1, 1) := by decide +kernel
set_option maxRecDepth 20000 in
theorem dL_law_982 : decode cL_law 982 = .ok (.aload_n 0, 1) := by decide +kernel
set_option maxRecDepth 20000 in
theorem dL_law_983 : decode cL_law 983 = .ok (.iload 4, 2) := by decide +kernel
set_option maxRecDepth 20000 in
theorem dL_law_985 : decode cL_law 985 = .ok (.iconst 1, 1) := by decide +kernel
set_option maxRecDepth 20000 in
theorem dL_law_986 : decode cL_law 986 = .ok (.iadd, 1) := by decide +kernel
set_option maxRecDepth 20000 in
theorem dL_law_987 : decode cL_law 987 = .ok (.iaload, 1) := by decide +kernel
set_option maxRecDepth 20000 in
theorem dL_law_988 : decode cL_law 988 = .ok (.aload_n 0, 1) := by decide +kernel
set_option maxRecDepth 20000 in
theorem dL_law_989 : decode cL_law 989 = .ok (.iload 4, 2) := by decide +kernel
set_option maxRecDepth 20000 in
theorem dL_law_991 : decode cL_law 991 = .ok (.iconst 2, 1) := by decide +kernel
set_option maxRecDepth 20000 in
theorem dL_law_992 : decode cL_law 992 = .ok (.iadd, 1) := by decide +kernel
set_option maxRecDepth 20000 in
theorem dL_law_993 : decode cL_law 993 = .ok (.iaload, 1) := by decide +kernel
set_option maxRecDepth 20000 in
theorem dL_law_994 : decode cL_law 994 = .ok (.invokevirtual 119, 3) := by decide +kernel
set_option maxRecDepth 20000 in
theorem dL_law_997 : decode cL_law 997 = .ok (.aload_n 2, 1) := by decide +kernel
set_option maxRecDepth 20000 in
theorem dL_law_998 : decode cL_law 998 = .ok (.aload_n 0, 1) := by decide +kernel
set_option maxRecDepth 20000 in
theorem dL_law_999 : decode cL_law 999 = .ok (.iload 4, 2) := by decide +kernel
set_option maxRecDepth 20000 in
theorem dL_law_1001 : decode cL_law 1001 = .ok (.iconst 1, 1) := by decide +kernel
set_option maxRecDepth 20000 in
theorem dL_law_1002 : decode cL_law 1002 = .ok (.iadd, 1) := by decide +kernel
set_option maxRecDepth 20000 in
theorem dL_law_1003 : decode cL_law 1003 = .ok (.iaload, 1) := by decide +kernel
set_option maxRecDepth 20000 in
theorem dL_law_1004 : decode cL_law 1004 = .ok (.aload_n 0, 1) := by decide +kernel
set_option maxRecDepth 20000 in
theorem dL_law_1005 : decode cL_law 1005 = .ok (.iload 4, 2) := by decide +kernel
set_option maxRecDepth 20000 in
theorem dL_law_1007 : decode cL_law 1007 = .ok (.iconst 2, 1) := by decide +kernel
set_option maxRecDepth 20000 in
theorem dL_law_1008 : decode cL_law 1008 = .ok (.iadd, 1) := by decide +kernel
set_option maxRecDepth 20000 in
theorem dL_law_1009 : decode cL_law 1009 = .ok (.iaload, 1) := by decide +kernel
set_option maxRecDepth 20000 in
theorem dL_law_1010 : decode cL_law 1010 = .ok (.invokevirtual 122, 3) := by decide +kernel
set_option maxRecDepth 20000 in
theorem dL_law_1013 : decode cL_law 1013 = .ok (.if_icmp .eq 616, 3) := by decide +kernel
set_option maxRecDepth 20000 in
theorem dL_law_1018 : decode cL_law 1018 = .ok (.aload_n 1, 1) := by decide +kernel
set_option maxRecDepth 20000 in
theorem dL_law_1019 : decode cL_law 1019 = .ok (.aload_n 0, 1) := by decide +kernel
set_option maxRecDepth 20000 in
theorem dL_law_1020 : decode cL_law 1020 = .ok (.iload 4, 2) := by decide +kernel
set_option maxRecDepth 20000 in
theorem dL_law_1022 : decode cL_law 1022 = .ok (.iconst 1, 1) := by decide +kernel
set_option maxRecDepth 20000 in
theorem dL_law_1023 : decode cL_law 1023 = .ok (.iadd, 1) := by decide +kernel
set_option maxRecDepth 20000 in
theorem dL_law_1024 : decode cL_law 1024 = .ok (.iaload, 1) := by decide +kernel
set_option maxRecDepth 20000 in
theorem dL_law_1025 : decode cL_law 1025 = .ok (.invokevirtual 123, 3) := by decide +kernel
set_option maxRecDepth 20000 in
theorem dL_law_1028 : decode cL_law 1028 = .ok (.aload_n 2, 1) := by decide +kernel
set_option maxRecDepth 20000 in
theorem dL_law_1029 : decode cL_law 1029 = .ok (.aload_n 0, 1) := by decide +kernel
set_option maxRecDepth 20000 in
theorem dL_law_1030 : decode cL_law 1030 = .ok (.iload 4, 2) := by decide +kernel
set_option maxRecDepth 20000 in
theorem dL_law_1032 : decode cL_law 1032 = .ok (.iconst 1, 1) := by decide +kernel
set_option maxRecDepth 20000 in
theorem dL_law_1033 : decode cL_law 1033 = .ok (.iadd, 1) := by decide +kernel
set_option maxRecDepth 20000 in
theorem dL_law_1034 : decode cL_law 1034 = .ok (.iaload, 1) := by decide +kernel
set_option maxRecDepth 20000 in
theorem dL_law_1035 : decode cL_law 1035 = .ok (.invokevirtual 126, 3) := by decide +kernel
set_option maxRecDepth 20000 in
theorem dL_law_1038 : decode cL_law 1038 = .ok (.if_icmp .eq 591, 3) := by decide +kernel
set_option maxRecDepth 20000 in
theorem dL_law_1043 : decode cL_law 1043 = .ok (.aload_n 1, 1) := by decide +kernel
set_option maxRecDepth 20000 in
theorem dL_law_1044 : decode cL_law 1044 = .ok (.aload_n 0, 1) := by decide +kernel
set_option maxRecDepth 20000 in
theorem dL_law_1045 : decode cL_law 1045 = .ok (.iload 4, 2) := by decide +kernel
set_option maxRecDepth 20000 in
theorem dL_law_1047 : decode cL_law 1047 = .ok (.iconst 1, 1) := by decide +kernel
set_option maxRecDepth 20000 in
theorem dL_law_1048 : decode cL_law 1048 = .ok (.iadd, 1) := by decide +kernel
set_option maxRecDepth 20000 in
theorem dL_law_1049 : decode cL_law 1049 = .ok (.iaload, 1) := by decide +kernel
set_option maxRecDepth 20000 in
theorem dL_law_1050 : decode cL_law 1050 = .ok (.aload_n 0, 1) := by decide +kernel
set_option maxRecDepth 20000 in
theorem dL_law_1051 : decode cL_law 1051 = .ok (.iload 4, 2) := by decide +kernel
set_option maxRecDepth 20000 in
theorem dL_law_1053 : decode cL_law 1053 = .ok (.iconst 2, 1) := by decide +kernel
set_option maxRecDepth 20000 in
theorem dL_law_1054 : decode cL_law 1054 = .ok (.iadd, 1) := by decide +kernel
set_option maxRecDepth 20000 in
theorem dL_law_1055 : decode cL_law 1055 = .ok (.iaload, 1) := by decide +kernel
set_option maxRecDepth 20000 in
theorem dL_law_1056 : decode cL_law 1056 = .ok (.invokevirtual 127, 3) := by decide +kernel
set_option maxRecDepth 20000 in
theorem dL_law_1059 : decode cL_law 1059 = .ok (.aload_n 2, 1) := by decide +kernel
set_option maxRecDepth 20000 in
theorem dL_law_1060 : decode cL_law 1060 = .ok (.aload_n 0, 1) := by decide +kernel
set_option maxRecDepth 20000 in
theorem dL_law_1061 : decode cL_law 1061 = .ok (.iload 4, 2) := by decide +kernel
set_option maxRecDepth 20000 in
theorem dL_law_1063 : decode cL_law 1063 = .ok (.iconst 1, 1) := by decide +kernel
set_option maxRecDepth 20000 in
theorem dL_law_1064 : decode cL_law 1064 = .ok (.iadd, 1) := by decide +kernel
set_option maxRecDepth 20000 in
theorem dL_law_1065 : decode cL_law 1065 = .ok (.iaload, 1) := by decide +kernel
set_option maxRecDepth 20000 in
theorem dL_law_1066 : decode cL_law 1066 = .ok (.aload_n 0, 1) := by decide +kernel
set_option maxRecDepth 20000 in
theorem dL_law_1067 : decode cL_law 1067 = .ok (.iload 4, 2) := by decide +kernel
set_option maxRecDepth 20000 in
theorem dL_law_1069 : decode cL_law 1069 = .ok (.iconst 2, 1) := by decide +kernel
set_option maxRecDepth 20000 in
theorem dL_law_1070 : decode cL_law 1070 = .ok (.iadd, 1) := by decide +kernel
set_option maxRecDepth 20000 in
theorem dL_law_1071 : decode cL_law 1071 = .ok (.iaload, 1) := by decide +kernel
set_option maxRecDepth 20000 in
theorem dL_law_1072 : decode cL_law 1072 = .ok (.invokevirtual 130, 3) := by decide +kernel
set_option maxRecDepth 20000 in
theorem dL_law_1075 : decode cL_law 1075 = .ok (.if_icmp .eq 554, 3) := by decide +kernel
set_option maxRecDepth 20000 in
theorem dL_law_1080 : decode cL_law 1080 = .ok (.aload_n 1, 1) := by decide +kernel
set_option maxRecDepth 20000 in
theorem dL_law_1081 : decode cL_law 1081 = .ok (.aload_n 0, 1) := by decide +kernel
set_option maxRecDepth 20000 in
theorem dL_law_1082 : decode cL_law 1082 = .ok (.iload 4, 2) := by decide +kernel
set_option maxRecDepth 20000 in
theorem dL_law_1084 : decode cL_law 1084 = .ok (.iconst 1, 1) := by decide +kernel
set_option maxRecDepth 20000 in
theorem dL_law_1085 : decode cL_law 1085 = .ok (.iadd, 1) := by decide +kernel
set_option maxRecDepth 20000 in
theorem dL_law_1086 : decode cL_law 1086 = .ok (.iaload, 1) := by decide +kernel
set_option maxRecDepth 20000 in
theorem dL_law_1087 : decode cL_law 1087 = .ok (.aload_n 0, 1) := by decide +kernel
set_option maxRecDepth 20000 in
theorem dL_law_1088 : decode cL_law 1088 = .ok (.iload 4, 2) := by decide +kernel
set_option maxRecDepth 20000 in
theorem dL_law_1090 : decode cL_law 1090 = .ok (.iconst 2, 1) := by decide +kernel
set_option maxRecDepth 20000 in
theorem dL_law_1091 : decode cL_law 1091 = .ok (.iadd, 1) := by decide +kernel
set_option maxRecDepth 20000 in
theorem dL_law_1092 : decode cL_law 1092 = .ok (.iaload, 1) := by decide +kernel
set_option maxRecDepth 20000 in
theorem dL_law_1093 : decode cL_law 1093 = .ok (.ifCond .eq 7, 3) := by decide +kernel
set_option maxRecDepth 20000 in
theorem dL_law_1096 : decode cL_law 1096 = .ok (.iconst 1, 1) := by decide +kernel
set_option maxRecDepth 20000 in
theorem dL_law_1097 : decode cL_law 1097 = .ok (.goto 4, 3) := by decide +kernel
set_option maxRecDepth 20000 in
theorem dL_law_1100 : decode cL_law 1100 = .ok (.iconst 0, 1) := by decide +kernel
set_option maxRecDepth 20000 in
theorem dL_law_1101 : decode cL_law 1101 = .ok (.invokevirtual 131, 3) := by decide +kernel
set_option maxRecDepth 20000 in
theorem dL_law_1104 : decode cL_law 1104 = .ok (.aload_n 2, 1) := by decide +kernel
set_option maxRecDepth 20000 in
theorem dL_law_1105 : decode cL_law 1105 = .ok (.aload_n 0, 1) := by decide +kernel
set_option maxRecDepth 20000 in
theorem dL_law_1106 : decode cL_law 1106 = .ok (.iload 4, 2) := by decide +kernel
set_option maxRecDepth 20000 in
theorem dL_law_1108 : decode cL_law 1108 = .ok (.iconst 1, 1) := by decide +kernel
set_option maxRecDepth 20000 in
theorem dL_law_1109 : decode cL_law 1109 = .ok (.iadd, 1) := by decide +kernel
set_option maxRecDepth 20000 in
theorem dL_law_1110 : decode cL_law 1110 = .ok (.iaload, 1) := by decide +kernel
set_option maxRecDepth 20000 in
theorem dL_law_1111 : decode cL_law 1111 = .ok (.aload_n 0, 1) := by decide +kernel
set_option maxRecDepth 20000 in
theorem dL_law_1112 : decode cL_law 1112 = .ok (.iload 4, 2) := by decide +kernel
set_option maxRecDepth 20000 in
theorem dL_law_1114 : decode cL_law 1114 = .ok (.iconst 2, 1) := by decide +kernel
set_option maxRecDepth 20000 in
theorem dL_law_1115 : decode cL_law 1115 = .ok (.iadd, 1) := by decide +kernel
set_option maxRecDepth 20000 in
theorem dL_law_1116 : decode cL_law 1116 = .ok (.iaload, 1) := by decide +kernel
set_option maxRecDepth 20000 in
theorem dL_law_1117 : decode cL_law 1117 = .ok (.ifCond .eq 7, 3) := by decide +kernel
set_option maxRecDepth 20000 in
theorem dL_law_1120 : decode cL_law 1120 = .ok (.iconst 1, 1) := by decide +kernel
set_option maxRecDepth 20000 in
theorem dL_law_1121 : decode cL_law 1121 = .ok (.goto 4, 3) := by decide +kernel
set_option maxRecDepth 20000 in
theorem dL_law_1124 : decode cL_law 1124 = .ok (.iconst 0, 1) := by decide +kernel
set_option maxRecDepth 20000 in
theorem dL_law_1125 : decode cL_law 1125 = .ok (.invokevirtual 135, 3) := by decide +kernel
set_option maxRecDepth 20000 in
theorem dL_law_1128 : decode cL_law 1128 = .ok (.if_icmp .eq 501, 3) := by decide +kernel
set_option maxRecDepth 20000 in
theorem dL_law_1133 : decode cL_law 1133 = .ok (.aload_n 1, 1) := by decide +kernel
set_option maxRecDepth 20000 in
theorem dL_law_1134 : decode cL_law 1134 = .ok (.aload_n 0, 1) := by decide +kernel
set_option maxRecDepth 20000 in
theorem dL_law_1135 : decode cL_law 1135 = .ok (.iload 4, 2) := by decide +kernel
set_option maxRecDepth 20000 in
theorem dL_law_1137 : decode cL_law 1137 = .ok (.iconst 1, 1) := by decide +kernel
set_option maxRecDepth 20000 in
theorem dL_law_1138 : decode cL_law 1138 = .ok (.iadd, 1) := by decide +kernel
set_option maxRecDepth 20000 in
theorem dL_law_1139 : decode cL_law 1139 = .ok (.iaload, 1) := by decide +kernel
set_option maxRecDepth 20000 in
theorem dL_law_1140 : decode cL_law 1140 = .ok (.invokevirtual 136, 3) := by decide +kernel
set_option maxRecDepth 20000 in
theorem dL_law_1143 : decode cL_law 1143 = .ok (.aload_n 2, 1) := by decide +kernel
set_option maxRecDepth 20000 in
theorem dL_law_1144 : decode cL_law 1144 = .ok (.aload_n 0, 1) := by decide +kernel
set_option maxRecDepth 20000 in
theorem dL_law_1145 : decode cL_law 1145 = .ok (.iload 4, 2) := by decide +kernel
set_option maxRecDepth 20000 in
theorem dL_law_1147 : decode cL_law 1147 = .ok (.iconst 1, 1) := by decide +kernel
set_option maxRecDepth 20000 in
theorem dL_law_1148 : decode cL_law 1148 = .ok (.iadd, 1) := by decide +kernel
set_option maxRecDepth 20000 in
theorem dL_law_1149 : decode cL_law 1149 = .ok (.iaload, 1) := by decide +kernel
set_option maxRecDepth 20000 in
theorem dL_law_1150 : decode cL_law 1150 = .ok (.invokevirtual 139, 3) := by decide +kernel
set_option maxRecDepth 20000 in
theorem dL_law_1153 : decode cL_law 1153 = .ok (.if_icmp .eq 476, 3) := by decide +kernel
set_option maxRecDepth 20000 in
theorem dL_law_1158 : decode cL_law 1158 = .ok (.aload_n 1, 1) := by decide +kernel
set_option maxRecDepth 20000 in
theorem dL_law_1159 : decode cL_law 1159 = .ok (.invokevirtual 140, 3) := by decide +kernel
set_option maxRecDepth 20000 in
theorem dL_law_1162 : decode cL_law 1162 = .ok (.aload_n 2, 1) := by decide +kernel
set_option maxRecDepth 20000 in
theorem dL_law_1163 : decode cL_law 1163 = .ok (.invokevirtual 143, 3) := by decide +kernel
set_option maxRecDepth 20000 in
theorem dL_law_1166 : decode cL_law 1166 = .ok (.if_icmp .eq 463, 3) := by decide +kernel
set_option maxRecDepth 20000 in
theorem dL_law_1171 : decode cL_law 1171 = .ok (.aload_n 1, 1) := by decide +kernel
set_option maxRecDepth 20000 in
theorem dL_law_1172 : decode cL_law 1172 = .ok (.aload_n 0, 1) := by decide +kernel
set_option maxRecDepth 20000 in
theorem dL_law_1173 : decode cL_law 1173 = .ok (.iload 4, 2) := by decide +kernel
set_option maxRecDepth 20000 in
theorem dL_law_1175 : decode cL_law 1175 = .ok (.iconst 1, 1) := by decide +kernel
set_option maxRecDepth 20000 in
theorem dL_law_1176 : decode cL_law 1176 = .ok (.iadd, 1) := by decide +kernel
set_option maxRecDepth 20000 in
theorem dL_law_1177 : decode cL_law 1177 = .ok (.iaload, 1) := by decide +kernel
set_option maxRecDepth 20000 in
theorem dL_law_1178 : decode cL_law 1178 = .ok (.invokevirtual 144, 3) := by decide +kernel
set_option maxRecDepth 20000 in
theorem dL_law_1181 : decode cL_law 1181 = .ok (.aload_n 2, 1) := by decide +kernel
set_option maxRecDepth 20000 in
theorem dL_law_1182 : decode cL_law 1182 = .ok (.aload_n 0, 1) := by decide +kernel
set_option maxRecDepth 20000 in
theorem dL_law_1183 : decode cL_law 1183 = .ok (.iload 4, 2) := by decide +kernel
set_option maxRecDepth 20000 in
theorem dL_law_1185 : decode cL_law 1185 = .ok (.iconst 1, 1) := by decide +kernel
set_option maxRecDepth 20000 in
theorem dL_law_1186 : decode cL_law 1186 = .ok (.iadd, 1) := by decide +kernel
set_option maxRecDepth 20000 in
theorem dL_law_1187 : decode cL_law 1187 = .ok (.iaload, 1) := by decide +kernel
set_option maxRecDepth 20000 in
theorem dL_law_1188 : decode cL_law 1188 = .ok (.invokevirtual 147, 3) := by decide +kernel
set_option maxRecDepth 20000 in
theorem dL_law_1191 : decode cL_law 1191 = .ok (.if_icmp .eq 438, 3) := by decide +kernel
set_option maxHeartbeats 4000000 in
set_option maxRecDepth 100000 in
theorem lc_22 {p : Program} {l : Launch} {e : Env} {s : State} {m : MethodId} {below : List Frame} {meth : Method} {c : Code} {b : Nat} {xs : Nat → Int32} {H : Heap} {locs : List Loc} {ls : Array Slot} {dC : Nat → ClassId} {dI : Nat → Nat → Nat} {sk sv : Nat → Nat} {s2 tz s3 : Nat} (q r : Nat → Nat) (kB : ClassId) (kR : ClassId) (kT : ClassId) (kU : ClassId) (kL : ClassId) (kN : ClassId) (fB fT : Nat → Int32) (qo : Nat) (hlt : l.stackTraces = false) (C0 : lw_At p s m meth c b 6 xs) (hG : gxP s) (hE : exP sk sv s2 tz (fun q : Nat => s.heap.size ≤ q) s s.heap) (hT : tP s3 (fun q : Nat => s.heap.size ≤ q) s s.heap) (hK : va_K (dC, dI) vwCl [(kB, .int), (kR, .int), (kT, .byte), (kU, .int), (kL, .int), (kN, .int)] s) (hP : va_P (dC, dI) vwCl (fwL q r kB kR kT kU kL kN fB fT) H) (hD : va_D (fun q : Nat => s.heap.size ≤ q) (fwL q r kB kR kT kU kL kN fB fT)) (hS : va_S (fun q : Nat => s.heap.size ≤ q) s.heap H locs) (hl : lv_has ls 7 [(0, .ref b), (1, .ref (q 15)), (2, .ref (r 100)), (3, .ref qo), (4, .int 0)]) : W p l e room_1 s m #[Value.ref b] below meth c H locs 335 33214 (lw_Z below #[Value.ref b] s) (F0 m 981 ls []) := by
  obtain ⟨hx, hb, hr, hml, hown0, hts, hX, hbl, hlocks, hgv⟩ := id C0
  have hown : s.vm.findClass RL = some m.cls := hown0
  have hA : ∀ q : Nat, s.heap.size ≤ q → (fun q : Nat => s.heap.size ≤ q) q := fun _ h => h
  have hbA : ¬ (fun q : Nat => s.heap.size ≤ q) b := Nat.not_le.mpr hbl
  have hiX11 : ∀ w ∈ u_ws RX11 TX11 17, w ∈ lw_tbl := in_X11
  have hiX12 : ∀ w ∈ u_ws RX12 TX12 54, w ∈ lw_tbl := in_X12
  refine lv_aload_n hx hb dL_law_981 rfl (lv_at hl 1 rfl) ?_
  refine lv_aload_n hx hb dL_law_982 rfl (lv_at hl 0 rfl) ?_
  refine lv_iload hx hb dL_law_983 (lv_at hl 4 rfl) ?_
  refine lv_iconst (v := 1) hx hb dL_law_985 (by decide) ?_
  refine lv_iadd hx hb dL_law_986 ?_
  refine lv_topi (fun v_1 e_1 => ?_)
  obtain rfl : v_1 = 1 := by rw [e_1]; decide
  refine va_sld hx hb hX hbl hbA hS (i := 1) (vp_in_nI (n := 1) (by decide) (by decide)) dL_law_987 ?_
  refine lv_topi (fun v_2 e_2 => ?_)
  obtain rfl : v_2 = xs 1 := by rw [e_2]; exact congrArg xs (by decide)
  refine lv_aload_n hx hb dL_law_988 rfl (lv_at hl 0 rfl) ?_
  refine lv_iload hx hb dL_law_989 (lv_at hl 4 rfl) ?_
  refine lv_iconst (v := 2) hx hb dL_law_991 (by decide) ?_
  refine lv_iadd hx hb dL_law_992 ?_
  refine lv_topi (fun v_3 e_3 => ?_)
  obtain rfl : v_3 = 2 := by rw [e_3]; decide
  refine va_sld hx hb hX hbl hbA hS (i := 2) (vp_in_nI (n := 2) (by decide) (by decide)) dL_law_993 ?_
  refine lv_topi (fun v_4 e_4 => ?_)
  obtain rfl : v_4 = xs 2 := by rw [e_4]; exact congrArg xs (by decide)
  have hPc := hP.sub (ws' := [((q 15), .inr (11, xF q 0 1)), ((q 1), .inr (5, [.int 0, .int 0, .int 0, .int 0, .ref (q 20), .ref (q 21), .ref (q 22), .ref (q 23)]))]) [0, 3] rfl
  have hDc := hD.sub (ws' := [((q 15), .inr (11, xF q 0 1)), ((q 1), .inr (5, [.int 0, .int 0, .int 0, .int 0, .ref (q 20), .ref (q 21), .ref (q 22), .ref (q 23)]))]) [0, 3] (by decide) rfl
  have hKc := hK.sub (tys' := []) [] rfl
  have hFc := va_free (wc := [((q 15), .inr (11, xF q 0 1)), ((q 1), .inr (5, [.int 0, .int 0, .int 0, .int 0, .ref (q 20), .ref (q 21), .ref (q 22), .ref (q 23)]))]) hD hS hA [0, 3] rfl
  refine va_calli (va_runV (As := [.int (xs 1), .int (xs 2)]) (rest := []) ⟨hx, hb, hml, hown, hts⟩ (f_X11_feast l dC dI H.size q ((xs 1)) ((xs 2))) (cwV 2 hts g_f_L_law_f_X11_feast rfl rfl rfl (by decide +kernel) ⟨Nat.le_of_ble_eq_true rfl, Nat.le_of_ble_eq_true rfl⟩) ⟨cW_blind, va_recv hKc hPc (ci := 11) (q0 := 0) rfl rfl, fun U hU hW => ⟨rfl, cW_use hU hW hPc hKc hDc hG⟩⟩ rfl rfl hl.1 rfl (lv_room (Nat.le_of_ble_eq_true rfl)) dL_law_994 ⟨Nat.le_of_ble_eq_true rfl, Nat.le_of_ble_eq_true rfl⟩) hS (fun q _ h => hFc q h) hFc (fun r_5 u t H1 locs ht hvm hw hB hz1 hk1 hS => ?_)
  obtain ⟨hP, hD⟩ := va_join (wr := [((r 100), .inr (12, mF r 0 0 0 0 0 0 0 0 0 0 0 0 0 (-1) 1)), ((r 1), .inl (kT, 240, .inl fT)), ((r 18), .inl (kU, 2, .inl (fun _ => 0))), ((r 24), .inl (kL, 5, .inl (fun _ => 0))), ((r 32), .inl (kN, 208, .inl (fun _ => 0)))]) (w1 := []) hP hD [0, 3] [12, 13, 14, 15, 16] rfl rfl (by decide) (by decide) hk1 hFc (va_P_nil H1) va_D_nil
  generalize H1 = H at hP hS ⊢
  have hP : va_P (dC, dI) vwCl [((r 100), .inr (12, mF r 0 0 0 0 0 0 0 0 0 0 0 0 0 (-1) 1)), ((r 1), .inl (kT, 240, .inl fT)), ((r 18), .inl (kU, 2, .inl (fun _ => 0))), ((r 24), .inl (kL, 5, .inl (fun _ => 0))), ((r 32), .inl (kN, 208, .inl (fun _ => 0)))] H := hP
  have hD : va_D (fun q : Nat => s.heap.size ≤ q) [((r 100), .inr (12, mF r 0 0 0 0 0 0 0 0 0 0 0 0 0 (-1) 1)), ((r 1), .inl (kT, 240, .inl fT)), ((r 18), .inl (kU, 2, .inl (fun _ => 0))), ((r 24), .inl (kL, 5, .inl (fun _ => 0))), ((r 32), .inl (kN, 208, .inl (fun _ => 0)))] := hD
  refine W.widen (k := 335) (n := 33214) (Nat.le_of_ble_eq_true rfl) (Nat.le_of_ble_eq_true rfl) ?_
  obtain rfl : r_5 = (-1) := hw
  refine lv_aload_n hx hb dL_law_997 rfl (lv_at hl 2 rfl) ?_
  refine lv_aload_n hx hb dL_law_998 rfl (lv_at hl 0 rfl) ?_
  refine lv_iload hx hb dL_law_999 (lv_at hl 4 rfl) ?_
  refine lv_iconst (v := 1) hx hb dL_law_1001 (by decide) ?_
  refine lv_iadd hx hb dL_law_1002 ?_
  refine lv_topi (fun v_6 e_6 => ?_)
  obtain rfl : v_6 = 1 := by rw [e_6]; decide
  refine va_sld hx hb hX hbl hbA hS (i := 1) (vp_in_nI (n := 1) (by decide) (by decide)) dL_law_1003 ?_
  refine lv_topi (fun v_7 e_7 => ?_)
  obtain rfl : v_7 = xs 1 := by rw [e_7]; exact congrArg xs (by decide)
  refine lv_aload_n hx hb dL_law_1004 rfl (lv_at hl 0 rfl) ?_
  refine lv_iload hx hb dL_law_1005 (lv_at hl 4 rfl) ?_
  refine lv_iconst (v := 2) hx hb dL_law_1007 (by decide) ?_
  refine lv_iadd hx hb dL_law_1008 ?_
  refine lv_topi (fun v_8 e_8 => ?_)
  obtain rfl : v_8 = 2 := by rw [e_8]; decide
  refine va_sld hx hb hX hbl hbA hS (i := 2) (vp_in_nI (n := 2) (by decide) (by decide)) dL_law_1009 ?_
  refine lv_topi (fun v_9 e_9 => ?_)
  obtain rfl : v_9 = xs 2 := by rw [e_9]; exact congrArg xs (by decide)
  have hPc := hP.sub (ws' := [((r 100), .inr (12, mF r 0 0 0 0 0 0 0 0 0 0 0 0 0 (-1) 1))]) [0] rfl
  have hDc := hD.sub (ws' := [((r 100), .inr (12, mF r 0 0 0 0 0 0 0 0 0 0 0 0 0 (-1) 1))]) [0] (by decide) rfl
  have hKc := hK.sub (tys' := []) [] rfl
  have hFc := va_free (wc := [((r 100), .inr (12, mF r 0 0 0 0 0 0 0 0 0 0 0 0 0 (-1) 1))]) hD hS hA [0] rfl
  refine va_calli (va_runV (As := [.int (xs 1), .int (xs 2)]) (rest := [.int (-1)]) ⟨hx, hb, hml, hown, hts⟩ (f_X12_feast l dC dI H.size r ((xs 1)) ((xs 2))) (cwV 2 hts g_f_L_law_f_X12_feast rfl rfl rfl (by decide +kernel) ⟨Nat.le_of_ble_eq_true rfl, Nat.le_of_ble_eq_true rfl⟩) ⟨cW_blind, va_recv hKc hPc (ci := 12) (q0 := 0) rfl rfl, fun U hU hW => ⟨rfl, cW_use hU hW hPc hKc hDc hG⟩⟩ rfl rfl hl.1 rfl (lv_room (Nat.le_of_ble_eq_true rfl)) dL_law_1010 ⟨Nat.le_of_ble_eq_true rfl, Nat.le_of_ble_eq_true rfl⟩) hS (fun q _ h => hFc q h) hFc (fun r_10 u t H1 locs ht hvm hw hB hz1 hk1 hS => ?_)
  obtain ⟨hP, hD⟩ := va_join (wr := [((r 1), .inl (kT, 240, .inl fT)), ((r 18), .inl (kU, 2, .inl (fun _ => 0))), ((r 24), .inl (kL, 5, .inl (fun _ => 0))), ((r 32), .inl (kN, 208, .inl (fun _ => 0)))]) (w1 := []) hP hD [0] [1, 2, 3, 4] rfl rfl (by decide) (by decide) hk1 hFc (va_P_nil H1) va_D_nil
  generalize H1 = H at hP hS ⊢
  have hP : va_P (dC, dI) vwCl [((r 1), .inl (kT, 240, .inl fT)), ((r 18), .inl (kU, 2, .inl (fun _ => 0))), ((r 24), .inl (kL, 5, .inl (fun _ => 0))), ((r 32), .inl (kN, 208, .inl (fun _ => 0)))] H := hP
  have hD : va_D (fun q : Nat => s.heap.size ≤ q) [((r 1), .inl (kT, 240, .inl fT)), ((r 18), .inl (kU, 2, .inl (fun _ => 0))), ((r 24), .inl (kL, 5, .inl (fun _ => 0))), ((r 32), .inl (kN, 208, .inl (fun _ => 0)))] := hD
  refine W.widen (k := 335) (n := 33214) (Nat.le_of_ble_eq_true rfl) (Nat.le_of_ble_eq_true rfl) ?_
  obtain rfl : r_10 = (-1) := hw
  refine lv_icmp_eq (tgt := 1629) hx hb dL_law_1013 (by decide) (fun c_11 => ?_) (fun c_11 => absurd (by decide) c_11)
  exact lc_exit C0 hS (by decide) (by decide) ls (lv_sub hl [0, 4] rfl)
set_option maxHeartbeats 4000000 in
set_option maxRecDepth 100000 in
theorem lc_23 {p : Program} {l : Launch} {e : Env} {s : State} {m : MethodId} {below : List Frame} {meth : Method} {c : Code} {b : Nat} {xs : Nat → Int32} {H : Heap} {locs : List Loc} {ls : Array Slot} {dC : Nat → ClassId} {dI : Nat → Nat → Nat} {sk sv : Nat → Nat} {s2 tz s3 : Nat} (q r : Nat → Nat) (kB : ClassId) (kR : ClassId) (kT : ClassId) (kU : ClassId) (kL : ClassId) (kN : ClassId) (fB fT : Nat → Int32) (qo : Nat) (hlt : l.stackTraces = false) (C0 : lw_At p s m meth c b 6 xs) (hG : gxP s) (hE : exP sk sv s2 tz (fun q : Nat => s.heap.size ≤ q) s s.heap) (hT : tP s3 (fun q : Nat => s.heap.size ≤ q) s s.heap) (hK : va_K (dC, dI) vwCl [(kB, .int), (kR, .int), (kT, .byte), (kU, .int), (kL, .int), (kN, .int)] s) (hP : va_P (dC, dI) vwCl (fwL q r kB kR kT kU kL kN fB fT) H) (hD : va_D (fun q : Nat => s.heap.size ≤ q) (fwL q r kB kR kT kU kL kN fB fT)) (hS : va_S (fun q : Nat => s.heap.size ≤ q) s.heap H locs) (hl : lv_has ls 7 [(0, .ref b), (1, .ref (q 15)), (2, .ref (r 100)), (3, .ref qo), (4, .int 0)]) : W p l e room_1 s m #[Value.ref b] below meth c H locs 335 33214 (lw_Z below #[Value.ref b] s) (F0 m 1018 ls []) := by
  obtain ⟨hx, hb, hr, hml, hown0, hts, hX, hbl, hlocks, hgv⟩ := id C0
  have hown : s.vm.findClass RL = some m.cls := hown0
  have hA : ∀ q : Nat, s.heap.size ≤ q → (fun q : Nat => s.heap.size ≤ q) q := fun _ h => h
  have hbA : ¬ (fun q : Nat => s.heap.size ≤ q) b := Nat.not_le.mpr hbl
  have hiX11 : ∀ w ∈ u_ws RX11 TX11 17, w ∈ lw_tbl := in_X11
  have hiX12 : ∀ w ∈ u_ws RX12 TX12 54, w ∈ lw_tbl := in_X12
  refine lv_aload_n hx hb dL_law_1018 rfl (lv_at hl 1 rfl) ?_
  refine lv_aload_n hx hb dL_law_1019 rfl (lv_at hl 0 rfl) ?_
  refine lv_iload hx hb dL_law_1020 (lv_at hl 4 rfl) ?_
  refine lv_iconst (v := 1) hx hb dL_law_1022 (by decide) ?_
  refine lv_iadd hx hb dL_law_1023 ?_
  refine lv_topi (fun v_1 e_1 => ?_)
  obtain rfl : v_1 = 1 := by rw [e_1]; decide
  refine va_sld hx hb hX hbl hbA hS (i := 1) (vp_in_nI (n := 1) (by decide) (by decide)) dL_law_1024 ?_
  refine lv_topi (fun v_2 e_2 => ?_)
  obtain rfl : v_2 = xs 1 := by rw [e_2]; exact congrArg xs (by decide)
  have hPc := hP.sub (ws' := [((q 15), .inr (11, xF q 0 1)), ((q 1), .inr (5, [.int 0, .int 0, .int 0, .int 0, .ref (q 20), .ref (q 21), .ref (q 22), .ref (q 23)]))]) [0, 3] rfl
  have hDc := hD.sub (ws' := [((q 15), .inr (11, xF q 0 1)), ((q 1), .inr (5, [.int 0, .int 0, .int 0, .int 0, .ref (q 20), .ref (q 21), .ref (q 22), .ref (q 23)]))]) [0, 3] (by decide) rfl
  have hKc := hK.sub (tys' := []) [] rfl
  have hFc := va_free (wc := [((q 15), .inr (11, xF q 0 1)), ((q 1), .inr (5, [.int 0, .int 0, .int 0, .int 0, .ref (q 20), .ref (q 21), .ref (q 22), .ref (q 23)]))]) hD hS hA [0, 3] rfl
  refine va_calli (va_runV (As := [.int (xs 1)]) (rest := []) ⟨hx, hb, hml, hown, hts⟩ (f_X11_soon l dC dI H.size q ((xs 1))) (cwV 1 hts g_f_L_law_f_X11_soon rfl rfl rfl (by decide +kernel) ⟨Nat.le_of_ble_eq_true rfl, Nat.le_of_ble_eq_true rfl⟩) ⟨cW_blind, va_recv hKc hPc (ci := 11) (q0 := 0) rfl rfl, fun U hU hW => ⟨rfl, cW_use hU hW hPc hKc hDc hG⟩⟩ rfl rfl hl.1 rfl (lv_room (Nat.le_of_ble_eq_true rfl)) dL_law_1025 ⟨Nat.le_of_ble_eq_true rfl, Nat.le_of_ble_eq_true rfl⟩) hS (fun q _ h => hFc q h) hFc (fun r_3 u t H1 locs ht hvm hw hB hz1 hk1 hS => ?_)
  obtain ⟨hP, hD⟩ := va_join (wr := [((r 100), .inr (12, mF r 0 0 0 0 0 0 0 0 0 0 0 0 0 (-1) 1)), ((r 1), .inl (kT, 240, .inl fT)), ((r 18), .inl (kU, 2, .inl (fun _ => 0))), ((r 24), .inl (kL, 5, .inl (fun _ => 0))), ((r 32), .inl (kN, 208, .inl (fun _ => 0)))]) (w1 := []) hP hD [0, 3] [12, 13, 14, 15, 16] rfl rfl (by decide) (by decide) hk1 hFc (va_P_nil H1) va_D_nil
  generalize H1 = H at hP hS ⊢
  have hP : va_P (dC, dI) vwCl [((r 100), .inr (12, mF r 0 0 0 0 0 0 0 0 0 0 0 0 0 (-1) 1)), ((r 1), .inl (kT, 240, .inl fT)), ((r 18), .inl (kU, 2, .inl (fun _ => 0))), ((r 24), .inl (kL, 5, .inl (fun _ => 0))), ((r 32), .inl (kN, 208, .inl (fun _ => 0)))] H := hP
  have hD : va_D (fun q : Nat => s.heap.size ≤ q) [((r 100), .inr (12, mF r 0 0 0 0 0 0 0 0 0 0 0 0 0 (-1) 1)), ((r 1), .inl (kT, 240, .inl fT)), ((r 18), .inl (kU, 2, .inl (fun _ => 0))), ((r 24), .inl (kL, 5, .inl (fun _ => 0))), ((r 32), .inl (kN, 208, .inl (fun _ => 0)))] := hD
  refine W.widen (k := 335) (n := 33214) (Nat.le_of_ble_eq_true rfl) (Nat.le_of_ble_eq_true rfl) ?_
  obtain rfl : r_3 = (-1) := hw
  refine lv_aload_n hx hb dL_law_1028 rfl (lv_at hl 2 rfl) ?_
  refine lv_aload_n hx hb dL_law_1029 rfl (lv_at hl 0 rfl) ?_
  refine lv_iload hx hb dL_law_1030 (lv_at hl 4 rfl) ?_
  refine lv_iconst (v := 1) hx hb dL_law_1032 (by decide) ?_
  refine lv_iadd hx hb dL_law_1033 ?_
  refine lv_topi (fun v_4 e_4 => ?_)
  obtain rfl : v_4 = 1 := by rw [e_4]; decide
  refine va_sld hx hb hX hbl hbA hS (i := 1) (vp_in_nI (n := 1) (by decide) (by decide)) dL_law_1034 ?_
  refine lv_topi (fun v_5 e_5 => ?_)
  obtain rfl : v_5 = xs 1 := by rw [e_5]; exact congrArg xs (by decide)
  have hPc := hP.sub (ws' := [((r 100), .inr (12, mF r 0 0 0 0 0 0 0 0 0 0 0 0 0 (-1) 1))]) [0] rfl
  have hDc := hD.sub (ws' := [((r 100), .inr (12, mF r 0 0 0 0 0 0 0 0 0 0 0 0 0 (-1) 1))]) [0] (by decide) rfl
  have hKc := hK.sub (tys' := []) [] rfl
  have hFc := va_free (wc := [((r 100), .inr (12, mF r 0 0 0 0 0 0 0 0 0 0 0 0 0 (-1) 1))]) hD hS hA [0] rfl
  refine va_calli (va_runV (As := [.int (xs 1)]) (rest := [.int (-1)]) ⟨hx, hb, hml, hown, hts⟩ (f_X12_soon l dC dI H.size r ((xs 1))) (cwV 1 hts g_f_L_law_f_X12_soon rfl rfl rfl (by decide +kernel) ⟨Nat.le_of_ble_eq_true rfl, Nat.le_of_ble_eq_true rfl⟩) ⟨cW_blind, va_recv hKc hPc (ci := 12) (q0 := 0) rfl rfl, fun U hU hW => ⟨rfl, cW_use hU hW hPc hKc hDc hG⟩⟩ rfl rfl hl.1 rfl (lv_room (Nat.le_of_ble_eq_true rfl)) dL_law_1035 ⟨Nat.le_of_ble_eq_true rfl, Nat.le_of_ble_eq_true rfl⟩) hS (fun q _ h => hFc q h) hFc (fun r_6 u t H1 locs ht hvm hw hB hz1 hk1 hS => ?_)
  obtain ⟨hP, hD⟩ := va_join (wr := [((r 1), .inl (kT, 240, .inl fT)), ((r 18), .inl (kU, 2, .inl (fun _ => 0))), ((r 24), .inl (kL, 5, .inl (fun _ => 0))), ((r 32), .inl (kN, 208, .inl (fun _ => 0)))]) (w1 := []) hP hD [0] [1, 2, 3, 4] rfl rfl (by decide) (by decide) hk1 hFc (va_P_nil H1) va_D_nil
  generalize H1 = H at hP hS ⊢
  have hP : va_P (dC, dI) vwCl [((r 1), .inl (kT, 240, .inl fT)), ((r 18), .inl (kU, 2, .inl (fun _ => 0))), ((r 24), .inl (kL, 5, .inl (fun _ => 0))), ((r 32), .inl (kN, 208, .inl (fun _ => 0)))] H := hP
  have hD : va_D (fun q : Nat => s.heap.size ≤ q) [((r 1), .inl (kT, 240, .inl fT)), ((r 18), .inl (kU, 2, .inl (fun _ => 0))), ((r 24), .inl (kL, 5, .inl (fun _ => 0))), ((r 32), .inl (kN, 208, .inl (fun _ => 0)))] := hD
  refine W.widen (k := 335) (n := 33214) (Nat.le_of_ble_eq_true rfl) (Nat.le_of_ble_eq_true rfl) ?_
  obtain rfl : r_6 = (-1) := hw
  refine lv_icmp_eq (tgt := 1629) hx hb dL_law_1038 (by decide) (fun c_7 => ?_) (fun c_7 => absurd (by decide) c_7)
  exact lc_exit C0 hS (by decide) (by decide) ls (lv_sub hl [0, 4] rfl)
set_option maxHeartbeats 4000000 in
set_option maxRecDepth 100000 in
theorem lc_24 {p : Program} {l : Launch} {e : Env} {s : State} {m : MethodId} {below : List Frame} {meth : Method} {c : Code} {b : Nat} {xs : Nat → Int32} {H : Heap} {locs : List Loc} {ls : Array Slot} {dC : Nat → ClassId} {dI : Nat → Nat → Nat} {sk sv : Nat → Nat} {s2 tz s3 : Nat} (q r : Nat → Nat) (kB : ClassId) (kR : ClassId) (kT : ClassId) (kU : ClassId) (kL : ClassId) (kN : ClassId) (fB fT : Nat → Int32) (qo : Nat) (hlt : l.stackTraces = false) (C0 : lw_At p s m meth c b 6 xs) (hG : gxP s) (hE : exP sk sv s2 tz (fun q : Nat => s.heap.size ≤ q) s s.heap) (hT : tP s3 (fun q : Nat => s.heap.size ≤ q) s s.heap) (hK : va_K (dC, dI) vwCl [(kB, .int), (kR, .int), (kT, .byte), (kU, .int), (kL, .int), (kN, .int)] s) (hP : va_P (dC, dI) vwCl (fwL q r kB kR kT kU kL kN fB fT) H) (hD : va_D (fun q : Nat => s.heap.size ≤ q) (fwL q r kB kR kT kU kL kN fB fT)) (hS : va_S (fun q : Nat => s.heap.size ≤ q) s.heap H locs) (hl : lv_has ls 7 [(0, .ref b), (1, .ref (q 15)), (2, .ref (r 100)), (3, .ref qo), (4, .int 0)]) : W p l e room_1 s m #[Value.ref b] below meth c H locs 335 33214 (lw_Z below #[Value.ref b] s) (F0 m 1043 ls []) := by
  obtain ⟨hx, hb, hr, hml, hown0, hts, hX, hbl, hlocks, hgv⟩ := id C0
  have hown : s.vm.findClass RL = some m.cls := hown0
  have hA : ∀ q : Nat, s.heap.size ≤ q → (fun q : Nat => s.heap.size ≤ q) q := fun _ h => h
  have hbA : ¬ (fun q : Nat => s.heap.size ≤ q) b := Nat.not_le.mpr hbl
  have hiX11 : ∀ w ∈ u_ws RX11 TX11 17, w ∈ lw_tbl := in_X11
  have hiX12 : ∀ w ∈ u_ws RX12 TX12 54, w ∈ lw_tbl := in_X12
  refine lv_aload_n hx hb dL_law_1043 rfl (lv_at hl 1 rfl) ?_
  refine lv_aload_n hx hb dL_law_1044 rfl (lv_at hl 0 rfl) ?_
  refine lv_iload hx hb dL_law_1045 (lv_at hl 4 rfl) ?_
  refine lv_iconst (v := 1) hx hb dL_law_1047 (by decide) ?_
  refine lv_iadd hx hb dL_law_1048 ?_
  refine lv_topi (fun v_1 e_1 => ?_)
  obtain rfl : v_1 = 1 := by rw [e_1]; decide
  refine va_sld hx hb hX hbl hbA hS (i := 1) (vp_in_nI (n := 1) (by decide) (by decide)) dL_law_1049 ?_
  refine lv_topi (fun v_2 e_2 => ?_)
  obtain rfl : v_2 = xs 1 := by rw [e_2]; exact congrArg xs (by decide)
  refine lv_aload_n hx hb dL_law_1050 rfl (lv_at hl 0 rfl) ?_
  refine lv_iload hx hb dL_law_1051 (lv_at hl 4 rfl) ?_
  refine lv_iconst (v := 2) hx hb dL_law_1053 (by decide) ?_
  refine lv_iadd hx hb dL_law_1054 ?_
  refine lv_topi (fun v_3 e_3 => ?_)
  obtain rfl : v_3 = 2 := by rw [e_3]; decide
  refine va_sld hx hb hX hbl hbA hS (i := 2) (vp_in_nI (n := 2) (by decide) (by decide)) dL_law_1055 ?_
  refine lv_topi (fun v_4 e_4 => ?_)
  obtain rfl : v_4 = xs 2 := by rw [e_4]; exact congrArg xs (by decide)
  have hPc := hP.sub (ws' := [((q 15), .inr (11, xF q 0 1)), ((q 1), .inr (5, [.int 0, .int 0, .int 0, .int 0, .ref (q 20), .ref (q 21), .ref (q 22), .ref (q 23)]))]) [0, 3] rfl
  have hDc := hD.sub (ws' := [((q 15), .inr (11, xF q 0 1)), ((q 1), .inr (5, [.int 0, .int 0, .int 0, .int 0, .ref (q 20), .ref (q 21), .ref (q 22), .ref (q 23)]))]) [0, 3] (by decide) rfl
  have hKc := hK.sub (tys' := []) [] rfl
  have hFc := va_free (wc := [((q 15), .inr (11, xF q 0 1)), ((q 1), .inr (5, [.int 0, .int 0, .int 0, .int 0, .ref (q 20), .ref (q 21), .ref (q 22), .ref (q 23)]))]) hD hS hA [0, 3] rfl
  refine va_calli (va_runV (As := [.int (xs 1), .int (xs 2)]) (rest := []) ⟨hx, hb, hml, hown, hts⟩ (f_X11_worn l dC dI H.size q ((xs 1)) ((xs 2))) (cwV 2 hts g_f_L_law_f_X11_worn rfl rfl rfl (by decide +kernel) ⟨Nat.le_of_ble_eq_true rfl, Nat.le_of_ble_eq_true rfl⟩) ⟨cW_blind, va_recv hKc hPc (ci := 11) (q0 := 0) rfl rfl, fun U hU hW => ⟨rfl, cW_use hU hW hPc hKc hDc hG⟩⟩ rfl rfl hl.1 rfl (lv_room (Nat.le_of_ble_eq_true rfl)) dL_law_1056 ⟨Nat.le_of_ble_eq_true rfl, Nat.le_of_ble_eq_true rfl⟩) hS (fun q _ h => hFc q h) hFc (fun r_5 u t H1 locs ht hvm hw hB hz1 hk1 hS => ?_)
  obtain ⟨hP, hD⟩ := va_join (wr := [((r 100), .inr (12, mF r 0 0 0 0 0 0 0 0 0 0 0 0 0 (-1) 1)), ((r 1), .inl (kT, 240, .inl fT)), ((r 18), .inl (kU, 2, .inl (fun _ => 0))), ((r 24), .inl (kL, 5, .inl (fun _ => 0))), ((r 32), .inl (kN, 208, .inl (fun _ => 0)))]) (w1 := []) hP hD [0, 3] [12, 13, 14, 15, 16] rfl rfl (by decide) (by decide) hk1 hFc (va_P_nil H1) va_D_nil
  generalize H1 = H at hP hS ⊢
  have hP : va_P (dC, dI) vwCl [((r 100), .inr (12, mF r 0 0 0 0 0 0 0 0 0 0 0 0 0 (-1) 1)), ((r 1), .inl (kT, 240, .inl fT)), ((r 18), .inl (kU, 2, .inl (fun _ => 0))), ((r 24), .inl (kL, 5, .inl (fun _ => 0))), ((r 32), .inl (kN, 208, .inl (fun _ => 0)))] H := hP
  have hD : va_D (fun q : Nat => s.heap.size ≤ q) [((r 100), .inr (12, mF r 0 0 0 0 0 0 0 0 0 0 0 0 0 (-1) 1)), ((r 1), .inl (kT, 240, .inl fT)), ((r 18), .inl (kU, 2, .inl (fun _ => 0))), ((r 24), .inl (kL, 5, .inl (fun _ => 0))), ((r 32), .inl (kN, 208, .inl (fun _ => 0)))] := hD
  refine W.widen (k := 335) (n := 33214) (Nat.le_of_ble_eq_true rfl) (Nat.le_of_ble_eq_true rfl) ?_
  obtain rfl : r_5 = (-1) := hw
  refine lv_aload_n hx hb dL_law_1059 rfl (lv_at hl 2 rfl) ?_
  refine lv_aload_n hx hb dL_law_1060 rfl (lv_at hl 0 rfl) ?_
  refine lv_iload hx hb dL_law_1061 (lv_at hl 4 rfl) ?_
  refine lv_iconst (v := 1) hx hb dL_law_1063 (by decide) ?_
  refine lv_iadd hx hb dL_law_1064 ?_
  refine lv_topi (fun v_6 e_6 => ?_)
  obtain rfl : v_6 = 1 := by rw [e_6]; decide
  refine va_sld hx hb hX hbl hbA hS (i := 1) (vp_in_nI (n := 1) (by decide) (by decide)) dL_law_1065 ?_
  refine lv_topi (fun v_7 e_7 => ?_)
  obtain rfl : v_7 = xs 1 := by rw [e_7]; exact congrArg xs (by decide)
  refine lv_aload_n hx hb dL_law_1066 rfl (lv_at hl 0 rfl) ?_
  refine lv_iload hx hb dL_law_1067 (lv_at hl 4 rfl) ?_
  refine lv_iconst (v := 2) hx hb dL_law_1069 (by decide) ?_
  refine lv_iadd hx hb dL_law_1070 ?_
  refine lv_topi (fun v_8 e_8 => ?_)
  obtain rfl : v_8 = 2 := by rw [e_8]; decide
  refine va_sld hx hb hX hbl hbA hS (i := 2) (vp_in_nI (n := 2) (by decide) (by decide)) dL_law_1071 ?_
  refine lv_topi (fun v_9 e_9 => ?_)
  obtain rfl : v_9 = xs 2 := by rw [e_9]; exact congrArg xs (by decide)
  have hPc := hP.sub (ws' := [((r 100), .inr (12, mF r 0 0 0 0 0 0 0 0 0 0 0 0 0 (-1) 1))]) [0] rfl
  have hDc := hD.sub (ws' := [((r 100), .inr (12, mF r 0 0 0 0 0 0 0 0 0 0 0 0 0 (-1) 1))]) [0] (by decide) rfl
  have hKc := hK.sub (tys' := []) [] rfl
  have hFc := va_free (wc := [((r 100), .inr (12, mF r 0 0 0 0 0 0 0 0 0 0 0 0 0 (-1) 1))]) hD hS hA [0] rfl
  refine va_calli (va_runV (As := [.int (xs 1), .int (xs 2)]) (rest := [.int (-1)]) ⟨hx, hb, hml, hown, hts⟩ (f_X12_worn l dC dI H.size r ((xs 1)) ((xs 2))) (cwV 2 hts g_f_L_law_f_X12_worn rfl rfl rfl (by decide +kernel) ⟨Nat.le_of_ble_eq_true rfl, Nat.le_of_ble_eq_true rfl⟩) ⟨cW_blind, va_recv hKc hPc (ci := 12) (q0 := 0) rfl rfl, fun U hU hW => ⟨rfl, cW_use hU hW hPc hKc hDc hG⟩⟩ rfl rfl hl.1 rfl (lv_room (Nat.le_of_ble_eq_true rfl)) dL_law_1072 ⟨Nat.le_of_ble_eq_true rfl, Nat.le_of_ble_eq_true rfl⟩) hS (fun q _ h => hFc q h) hFc (fun r_10 u t H1 locs ht hvm hw hB hz1 hk1 hS => ?_)
  obtain ⟨hP, hD⟩ := va_join (wr := [((r 1), .inl (kT, 240, .inl fT)), ((r 18), .inl (kU, 2, .inl (fun _ => 0))), ((r 24), .inl (kL, 5, .inl (fun _ => 0))), ((r 32), .inl (kN, 208, .inl (fun _ => 0)))]) (w1 := []) hP hD [0] [1, 2, 3, 4] rfl rfl (by decide) (by decide) hk1 hFc (va_P_nil H1) va_D_nil
  generalize H1 = H at hP hS ⊢
  have hP : va_P (dC, dI) vwCl [((r 1), .inl (kT, 240, .inl fT)), ((r 18), .inl (kU, 2, .inl (fun _ => 0))), ((r 24), .inl (kL, 5, .inl (fun _ => 0))), ((r 32), .inl (kN, 208, .inl (fun _ => 0)))] H := hP
  have hD : va_D (fun q : Nat => s.heap.size ≤ q) [((r 1), .inl (kT, 240, .inl fT)), ((r 18), .inl (kU, 2, .inl (fun _ => 0))), ((r 24), .inl (kL, 5, .inl (fun _ => 0))), ((r 32), .inl (kN, 208, .inl (fun _ => 0)))] := hD
  refine W.widen (k := 335) (n := 33214) (Nat.le_of_ble_eq_true rfl) (Nat.le_of_ble_eq_true rfl) ?_
  obtain rfl : r_10 = (-1) := hw
  refine lv_icmp_eq (tgt := 1629) hx hb dL_law_1075 (by decide) (fun c_11 => ?_) (fun c_11 => absurd (by decide) c_11)
  exact lc_exit C0 hS (by decide) (by decide) ls (lv_sub hl [0, 4] rfl)
set_option maxHeartbeats 4000000 in
set_option maxRecDepth 100000 in
theorem lc_25 {p : Program} {l : Launch} {e : Env} {s : State} {m : MethodId} {below : List Frame} {meth : Method} {c : Code} {b : Nat} {xs : Nat → Int32} {H : Heap} {locs : List Loc} {ls : Array Slot} {dC : Nat → ClassId} {dI : Nat → Nat → Nat} {sk sv : Nat → Nat} {s2 tz s3 : Nat} (q r : Nat → Nat) (kB : ClassId) (kR : ClassId) (kT : ClassId) (kU : ClassId) (kL : ClassId) (kN : ClassId) (fB fT : Nat → Int32) (qo : Nat) (hlt : l.stackTraces = false) (C0 : lw_At p s m meth c b 6 xs) (hG : gxP s) (hE : exP sk sv s2 tz (fun q : Nat => s.heap.size ≤ q) s s.heap) (hT : tP s3 (fun q : Nat => s.heap.size ≤ q) s s.heap) (hK : va_K (dC, dI) vwCl [(kB, .int), (kR, .int), (kT, .byte), (kU, .int), (kL, .int), (kN, .int)] s) (hP : va_P (dC, dI) vwCl (fwL q r kB kR kT kU kL kN fB fT) H) (hD : va_D (fun q : Nat => s.heap.size ≤ q) (fwL q r kB kR kT kU kL kN fB fT)) (hS : va_S (fun q : Nat => s.heap.size ≤ q) s.heap H locs) (hl : lv_has ls 7 [(0, .ref b), (1, .ref (q 15)), (2, .ref (r 100)), (3, .ref qo), (4, .int 0)]) : W p l e room_1 s m #[Value.ref b] below meth c H locs 335 33214 (lw_Z below #[Value.ref b] s) (F0 m 1080 ls []) := by
  obtain ⟨hx, hb, hr, hml, hown0, hts, hX, hbl, hlocks, hgv⟩ := id C0
  have hown : s.vm.findClass RL = some m.cls := hown0
  have hA : ∀ q : Nat, s.heap.size ≤ q → (fun q : Nat => s.heap.size ≤ q) q := fun _ h => h
  have hbA : ¬ (fun q : Nat => s.heap.size ≤ q) b := Nat.not_le.mpr hbl
  have hiX11 : ∀ w ∈ u_ws RX11 TX11 17, w ∈ lw_tbl := in_X11
  have hiX12 : ∀ w ∈ u_ws RX12 TX12 54, w ∈ lw_tbl := in_X12
  refine lv_aload_n hx hb dL_law_1080 rfl (lv_at hl 1 rfl) ?_
  refine lv_aload_n hx hb dL_law_1081 rfl (lv_at hl 0 rfl) ?_
  refine lv_iload hx hb dL_law_1082 (lv_at hl 4 rfl) ?_
  refine lv_iconst (v := 1) hx hb dL_law_1084 (by decide) ?_
  refine lv_iadd hx hb dL_law_1085 ?_
  refine lv_topi (fun v_1 e_1 => ?_)
  obtain rfl : v_1 = 1 := by rw [e_1]; decide
  refine va_sld hx hb hX hbl hbA hS (i := 1) (vp_in_nI (n := 1) (by decide) (by decide)) dL_law_1086 ?_
  refine lv_topi (fun v_2 e_2 => ?_)
  obtain rfl : v_2 = xs 1 := by rw [e_2]; exact congrArg xs (by decide)
  refine lv_aload_n hx hb dL_law_1087 rfl (lv_at hl 0 rfl) ?_
  refine lv_iload hx hb dL_law_1088 (lv_at hl 4 rfl) ?_
  refine lv_iconst (v := 2) hx hb dL_law_1090 (by decide) ?_
  refine lv_iadd hx hb dL_law_1091 ?_
  refine lv_topi (fun v_3 e_3 => ?_)
  obtain rfl : v_3 = 2 := by rw [e_3]; decide
  refine va_sld hx hb hX hbl hbA hS (i := 2) (vp_in_nI (n := 2) (by decide) (by decide)) dL_law_1092 ?_
  refine lv_topi (fun v_4 e_4 => ?_)
  obtain rfl : v_4 = xs 2 := by rw [e_4]; exact congrArg xs (by decide)
  refine lv_tern (a := 1) (b := 0) hx hb dL_law_1093 (by decide) dL_law_1096 (by decide) dL_law_1097 (by decide) dL_law_1100 (by decide) rfl (fun y_5 ey_5 => ?_)
  have hPc := hP.sub (ws' := [((q 15), .inr (11, xF q 0 1)), ((q 1), .inr (5, [.int 0, .int 0, .int 0, .int 0, .ref (q 20), .ref (q 21), .ref (q 22), .ref (q 23)]))]) [0, 3] rfl
  have hDc := hD.sub (ws' := [((q 15), .inr (11, xF q 0 1)), ((q 1), .inr (5, [.int 0, .int 0, .int 0, .int 0, .ref (q 20), .ref (q 21), .ref (q 22), .ref (q 23)]))]) [0, 3] (by decide) rfl
  have hKc := hK.sub (tys' := []) [] rfl
  have hFc := va_free (wc := [((q 15), .inr (11, xF q 0 1)), ((q 1), .inr (5, [.int 0, .int 0, .int 0, .int 0, .ref (q 20), .ref (q 21), .ref (q 22), .ref (q 23)]))]) hD hS hA [0, 3] rfl
  refine va_calli (va_runV (As := [.int (xs 1), .int y_5]) (rest := []) ⟨hx, hb, hml, hown, hts⟩ (f_X11_seen l dC dI H.size q ((xs 1)) y_5) (cwV 2 hts g_f_L_law_f_X11_seen rfl rfl rfl (by decide +kernel) ⟨Nat.le_of_ble_eq_true rfl, Nat.le_of_ble_eq_true rfl⟩) ⟨cW_blind, va_recv hKc hPc (ci := 11) (q0 := 0) rfl rfl, fun U hU hW => ⟨rfl, cW_use hU hW hPc hKc hDc hG⟩⟩ rfl rfl hl.1 rfl (lv_room (Nat.le_of_ble_eq_true rfl)) dL_law_1101 ⟨Nat.le_of_ble_eq_true rfl, Nat.le_of_ble_eq_true rfl⟩) hS (fun q _ h => hFc q h) hFc (fun r_6 u t H1 locs ht hvm hw hB hz1 hk1 hS => ?_)
  obtain ⟨hP, hD⟩ := va_join (wr := [((r 100), .inr (12, mF r 0 0 0 0 0 0 0 0 0 0 0 0 0 (-1) 1)), ((r 1), .inl (kT, 240, .inl fT)), ((r 18), .inl (kU, 2, .inl (fun _ => 0))), ((r 24), .inl (kL, 5, .inl (fun _ => 0))), ((r 32), .inl (kN, 208, .inl (fun _ => 0)))]) (w1 := []) hP hD [0, 3] [12, 13, 14, 15, 16] rfl rfl (by decide) (by decide) hk1 hFc (va_P_nil H1) va_D_nil
  generalize H1 = H at hP hS ⊢
  have hP : va_P (dC, dI) vwCl [((r 100), .inr (12, mF r 0 0 0 0 0 0 0 0 0 0 0 0 0 (-1) 1)), ((r 1), .inl (kT, 240, .inl fT)), ((r 18), .inl (kU, 2, .inl (fun _ => 0))), ((r 24), .inl (kL, 5, .inl (fun _ => 0))), ((r 32), .inl (kN, 208, .inl (fun _ => 0)))] H := hP
  have hD : va_D (fun q : Nat => s.heap.size ≤ q) [((r 100), .inr (12, mF r 0 0 0 0 0 0 0 0 0 0 0 0 0 (-1) 1)), ((r 1), .inl (kT, 240, .inl fT)), ((r 18), .inl (kU, 2, .inl (fun _ => 0))), ((r 24), .inl (kL, 5, .inl (fun _ => 0))), ((r 32), .inl (kN, 208, .inl (fun _ => 0)))] := hD
  refine W.widen (k := 335) (n := 33214) (Nat.le_of_ble_eq_true rfl) (Nat.le_of_ble_eq_true rfl) ?_
  obtain rfl : r_6 = (-1) := hw
  refine lv_aload_n hx hb dL_law_1104 rfl (lv_at hl 2 rfl) ?_
  refine lv_aload_n hx hb dL_law_1105 rfl (lv_at hl 0 rfl) ?_
  refine lv_iload hx hb dL_law_1106 (lv_at hl 4 rfl) ?_
  refine lv_iconst (v := 1) hx hb dL_law_1108 (by decide) ?_
  refine lv_iadd hx hb dL_law_1109 ?_
  refine lv_topi (fun v_7 e_7 => ?_)
  obtain rfl : v_7 = 1 := by rw [e_7]; decide
  refine va_sld hx hb hX hbl hbA hS (i := 1) (vp_in_nI (n := 1) (by decide) (by decide)) dL_law_1110 ?_
  refine lv_topi (fun v_8 e_8 => ?_)
  obtain rfl : v_8 = xs 1 := by rw [e_8]; exact congrArg xs (by decide)
  refine lv_aload_n hx hb dL_law_1111 rfl (lv_at hl 0 rfl) ?_
  refine lv_iload hx hb dL_law_1112 (lv_at hl 4 rfl) ?_
  refine lv_iconst (v := 2) hx hb dL_law_1114 (by decide) ?_
  refine lv_iadd hx hb dL_law_1115 ?_
  refine lv_topi (fun v_9 e_9 => ?_)
  obtain rfl : v_9 = 2 := by rw [e_9]; decide
  refine va_sld hx hb hX hbl hbA hS (i := 2) (vp_in_nI (n := 2) (by decide) (by decide)) dL_law_1116 ?_
  refine lv_topi (fun v_10 e_10 => ?_)
  obtain rfl : v_10 = xs 2 := by rw [e_10]; exact congrArg xs (by decide)
  refine lv_tern (a := 1) (b := 0) hx hb dL_law_1117 (by decide) dL_law_1120 (by decide) dL_law_1121 (by decide) dL_law_1124 (by decide) rfl (fun y_11 ey_11 => ?_)
  have hPc := hP.sub (ws' := [((r 100), .inr (12, mF r 0 0 0 0 0 0 0 0 0 0 0 0 0 (-1) 1))]) [0] rfl
  have hDc := hD.sub (ws' := [((r 100), .inr (12, mF r 0 0 0 0 0 0 0 0 0 0 0 0 0 (-1) 1))]) [0] (by decide) rfl
  have hKc := hK.sub (tys' := []) [] rfl
  have hFc := va_free (wc := [((r 100), .inr (12, mF r 0 0 0 0 0 0 0 0 0 0 0 0 0 (-1) 1))]) hD hS hA [0] rfl
  refine va_calli (va_runV (As := [.int (xs 1), .int y_11]) (rest := [.int (-1)]) ⟨hx, hb, hml, hown, hts⟩ (f_X12_seen l dC dI H.size r ((xs 1)) y_11) (cwV 2 hts g_f_L_law_f_X12_seen rfl rfl rfl (by decide +kernel) ⟨Nat.le_of_ble_eq_true rfl, Nat.le_of_ble_eq_true rfl⟩) ⟨cW_blind, va_recv hKc hPc (ci := 12) (q0 := 0) rfl rfl, fun U hU hW => ⟨rfl, cW_use hU hW hPc hKc hDc hG⟩⟩ rfl rfl hl.1 rfl (lv_room (Nat.le_of_ble_eq_true rfl)) dL_law_1125 ⟨Nat.le_of_ble_eq_true rfl, Nat.le_of_ble_eq_true rfl⟩) hS (fun q _ h => hFc q h) hFc (fun r_12 u t H1 locs ht hvm hw hB hz1 hk1 hS => ?_)
  obtain ⟨hP, hD⟩ := va_join (wr := [((r 1), .inl (kT, 240, .inl fT)), ((r 18), .inl (kU, 2, .inl (fun _ => 0))), ((r 24), .inl (kL, 5, .inl (fun _ => 0))), ((r 32), .inl (kN, 208, .inl (fun _ => 0)))]) (w1 := []) hP hD [0] [1, 2, 3, 4] rfl rfl (by decide) (by decide) hk1 hFc (va_P_nil H1) va_D_nil
  generalize H1 = H at hP hS ⊢
  have hP : va_P (dC, dI) vwCl [((r 1), .inl (kT, 240, .inl fT)), ((r 18), .inl (kU, 2, .inl (fun _ => 0))), ((r 24), .inl (kL, 5, .inl (fun _ => 0))), ((r 32), .inl (kN, 208, .inl (fun _ => 0)))] H := hP
  have hD : va_D (fun q : Nat => s.heap.size ≤ q) [((r 1), .inl (kT, 240, .inl fT)), ((r 18), .inl (kU, 2, .inl (fun _ => 0))), ((r 24), .inl (kL, 5, .inl (fun _ => 0))), ((r 32), .inl (kN, 208, .inl (fun _ => 0)))] := hD
  refine W.widen (k := 335) (n := 33214) (Nat.le_of_ble_eq_true rfl) (Nat.le_of_ble_eq_true rfl) ?_
  obtain rfl : r_12 = (-1) := hw
  refine lv_icmp_eq (tgt := 1629) hx hb dL_law_1128 (by decide) (fun c_13 => ?_) (fun c_13 => absurd (by decide) c_13)
  exact lc_exit C0 hS (by decide) (by decide) ls (lv_sub hl [0, 4] rfl)
set_option maxHeartbeats 4000000 in
set_option maxRecDepth 100000 in
theorem lc_26 {p : Program} {l : Launch} {e : Env} {s : State} {m : MethodId} {below : List Frame} {meth : Method} {c : Code} {b : Nat} {xs : Nat → Int32} {H : Heap} {locs : List Loc} {ls : Array Slot} {dC : Nat → ClassId} {dI : Nat → Nat → Nat} {sk sv : Nat → Nat} {s2 tz s3 : Nat} (q r : Nat → Nat) (kB : ClassId) (kR : ClassId) (kT : ClassId) (kU : ClassId) (kL : ClassId) (kN : ClassId) (fB fT : Nat → Int32) (qo : Nat) (hlt : l.stackTraces = false) (C0 : lw_At p s m meth c b 6 xs) (hG : gxP s) (hE : exP sk sv s2 tz (fun q : Nat => s.heap.size ≤ q) s s.heap) (hT : tP s3 (fun q : Nat => s.heap.size ≤ q) s s.heap) (hK : va_K (dC, dI) vwCl [(kB, .int), (kR, .int), (kT, .byte), (kU, .int), (kL, .int), (kN, .int)] s) (hP : va_P (dC, dI) vwCl (fwL q r kB kR kT kU kL kN fB fT) H) (hD : va_D (fun q : Nat => s.heap.size ≤ q) (fwL q r kB kR kT kU kL kN fB fT)) (hS : va_S (fun q : Nat => s.heap.size ≤ q) s.heap H locs) (hl : lv_has ls 7 [(0, .ref b), (1, .ref (q 15)), (2, .ref (r 100)), (3, .ref qo), (4, .int 0)]) : W p l e room_1 s m #[Value.ref b] below meth c H locs 335 33214 (lw_Z below #[Value.ref b] s) (F0 m 1133 ls []) := by
  obtain ⟨hx, hb, hr, hml, hown0, hts, hX, hbl, hlocks, hgv⟩ := id C0
  have hown : s.vm.findClass RL = some m.cls := hown0
  have hA : ∀ q : Nat, s.heap.size ≤ q → (fun q : Nat => s.heap.size ≤ q) q := fun _ h => h
  have hbA : ¬ (fun q : Nat => s.heap.size ≤ q) b := Nat.not_le.mpr hbl
  have hiX11 : ∀ w ∈ u_ws RX11 TX11 17, w ∈ lw_tbl := in_X11
  have hiX12 : ∀ w ∈ u_ws RX12 TX12 54, w ∈ lw_tbl := in_X12
  refine lv_aload_n hx hb dL_law_1133 rfl (lv_at hl 1 rfl) ?_
  refine lv_aload_n hx hb dL_law_1134 rfl (lv_at hl 0 rfl) ?_
  refine lv_iload hx hb dL_law_1135 (lv_at hl 4 rfl) ?_
  refine lv_iconst (v := 1) hx hb dL_law_1137 (by decide) ?_
  refine lv_iadd hx hb dL_law_1138 ?_
  refine lv_topi (fun v_1 e_1 => ?_)
  obtain rfl : v_1 = 1 := by rw [e_1]; decide
  refine va_sld hx hb hX hbl hbA hS (i := 1) (vp_in_nI (n := 1) (by decide) (by decide)) dL_law_1139 ?_
  refine lv_topi (fun v_2 e_2 => ?_)
  obtain rfl : v_2 = xs 1 := by rw [e_2]; exact congrArg xs (by decide)
  have hPc := hP.sub (ws' := [((q 15), .inr (11, xF q 0 1)), ((q 1), .inr (5, [.int 0, .int 0, .int 0, .int 0, .ref (q 20), .ref (q 21), .ref (q 22), .ref (q 23)]))]) [0, 3] rfl
  have hDc := hD.sub (ws' := [((q 15), .inr (11, xF q 0 1)), ((q 1), .inr (5, [.int 0, .int 0, .int 0, .int 0, .ref (q 20), .ref (q 21), .ref (q 22), .ref (q 23)]))]) [0, 3] (by decide) rfl
  have hKc := hK.sub (tys' := []) [] rfl
  have hFc := va_free (wc := [((q 15), .inr (11, xF q 0 1)), ((q 1), .inr (5, [.int 0, .int 0, .int 0, .int 0, .ref (q 20), .ref (q 21), .ref (q 22), .ref (q 23)]))]) hD hS hA [0, 3] rfl
  refine va_calli (va_runV (As := [.int (xs 1)]) (rest := []) ⟨hx, hb, hml, hown, hts⟩ (f_X11_knocked l dC dI H.size q ((xs 1))) (cwV 1 hts g_f_L_law_f_X11_knocked rfl rfl rfl (by decide +kernel) ⟨Nat.le_of_ble_eq_true rfl, Nat.le_of_ble_eq_true rfl⟩) ⟨cW_blind, va_recv hKc hPc (ci := 11) (q0 := 0) rfl rfl, fun U hU hW => ⟨rfl, cW_use hU hW hPc hKc hDc hG⟩⟩ rfl rfl hl.1 rfl (lv_room (Nat.le_of_ble_eq_true rfl)) dL_law_1140 ⟨Nat.le_of_ble_eq_true rfl, Nat.le_of_ble_eq_true rfl⟩) hS (fun q _ h => hFc q h) hFc (fun r_3 u t H1 locs ht hvm hw hB hz1 hk1 hS => ?_)
  obtain ⟨hP, hD⟩ := va_join (wr := [((r 100), .inr (12, mF r 0 0 0 0 0 0 0 0 0 0 0 0 0 (-1) 1)), ((r 1), .inl (kT, 240, .inl fT)), ((r 18), .inl (kU, 2, .inl (fun _ => 0))), ((r 24), .inl (kL, 5, .inl (fun _ => 0))), ((r 32), .inl (kN, 208, .inl (fun _ => 0)))]) (w1 := []) hP hD [0, 3] [12, 13, 14, 15, 16] rfl rfl (by decide) (by decide) hk1 hFc (va_P_nil H1) va_D_nil
  generalize H1 = H at hP hS ⊢
  have hP : va_P (dC, dI) vwCl [((r 100), .inr (12, mF r 0 0 0 0 0 0 0 0 0 0 0 0 0 (-1) 1)), ((r 1), .inl (kT, 240, .inl fT)), ((r 18), .inl (kU, 2, .inl (fun _ => 0))), ((r 24), .inl (kL, 5, .inl (fun _ => 0))), ((r 32), .inl (kN, 208, .inl (fun _ => 0)))] H := hP
  have hD : va_D (fun q : Nat => s.heap.size ≤ q) [((r 100), .inr (12, mF r 0 0 0 0 0 0 0 0 0 0 0 0 0 (-1) 1)), ((r 1), .inl (kT, 240, .inl fT)), ((r 18), .inl (kU, 2, .inl (fun _ => 0))), ((r 24), .inl (kL, 5, .inl (fun _ => 0))), ((r 32), .inl (kN, 208, .inl (fun _ => 0)))] := hD
  refine W.widen (k := 335) (n := 33214) (Nat.le_of_ble_eq_true rfl) (Nat.le_of_ble_eq_true rfl) ?_
  obtain rfl : r_3 = (-1) := hw
  refine lv_aload_n hx hb dL_law_1143 rfl (lv_at hl 2 rfl) ?_
  refine lv_aload_n hx hb dL_law_1144 rfl (lv_at hl 0 rfl) ?_
  refine lv_iload hx hb dL_law_1145 (lv_at hl 4 rfl) ?_
  refine lv_iconst (v := 1) hx hb dL_law_1147 (by decide) ?_
  refine lv_iadd hx hb dL_law_1148 ?_
  refine lv_topi (fun v_4 e_4 => ?_)
  obtain rfl : v_4 = 1 := by rw [e_4]; decide
  refine va_sld hx hb hX hbl hbA hS (i := 1) (vp_in_nI (n := 1) (by decide) (by decide)) dL_law_1149 ?_
  refine lv_topi (fun v_5 e_5 => ?_)
  obtain rfl : v_5 = xs 1 := by rw [e_5]; exact congrArg xs (by decide)
  have hPc := hP.sub (ws' := [((r 100), .inr (12, mF r 0 0 0 0 0 0 0 0 0 0 0 0 0 (-1) 1))]) [0] rfl
  have hDc := hD.sub (ws' := [((r 100), .inr (12, mF r 0 0 0 0 0 0 0 0 0 0 0 0 0 (-1) 1))]) [0] (by decide) rfl
  have hKc := hK.sub (tys' := []) [] rfl
  have hFc := va_free (wc := [((r 100), .inr (12, mF r 0 0 0 0 0 0 0 0 0 0 0 0 0 (-1) 1))]) hD hS hA [0] rfl
  refine va_calli (va_runV (As := [.int (xs 1)]) (rest := [.int (-1)]) ⟨hx, hb, hml, hown, hts⟩ (f_X12_knocked l dC dI H.size r ((xs 1))) (cwV 1 hts g_f_L_law_f_X12_knocked rfl rfl rfl (by decide +kernel) ⟨Nat.le_of_ble_eq_true rfl, Nat.le_of_ble_eq_true rfl⟩) ⟨cW_blind, va_recv hKc hPc (ci := 12) (q0 := 0) rfl rfl, fun U hU hW => ⟨rfl, cW_use hU hW hPc hKc hDc hG⟩⟩ rfl rfl hl.1 rfl (lv_room (Nat.le_of_ble_eq_true rfl)) dL_law_1150 ⟨Nat.le_of_ble_eq_true rfl, Nat.le_of_ble_eq_true rfl⟩) hS (fun q _ h => hFc q h) hFc (fun r_6 u t H1 locs ht hvm hw hB hz1 hk1 hS => ?_)
  obtain ⟨hP, hD⟩ := va_join (wr := [((r 1), .inl (kT, 240, .inl fT)), ((r 18), .inl (kU, 2, .inl (fun _ => 0))), ((r 24), .inl (kL, 5, .inl (fun _ => 0))), ((r 32), .inl (kN, 208, .inl (fun _ => 0)))]) (w1 := []) hP hD [0] [1, 2, 3, 4] rfl rfl (by decide) (by decide) hk1 hFc (va_P_nil H1) va_D_nil
  generalize H1 = H at hP hS ⊢
  have hP : va_P (dC, dI) vwCl [((r 1), .inl (kT, 240, .inl fT)), ((r 18), .inl (kU, 2, .inl (fun _ => 0))), ((r 24), .inl (kL, 5, .inl (fun _ => 0))), ((r 32), .inl (kN, 208, .inl (fun _ => 0)))] H := hP
  have hD : va_D (fun q : Nat => s.heap.size ≤ q) [((r 1), .inl (kT, 240, .inl fT)), ((r 18), .inl (kU, 2, .inl (fun _ => 0))), ((r 24), .inl (kL, 5, .inl (fun _ => 0))), ((r 32), .inl (kN, 208, .inl (fun _ => 0)))] := hD
  refine W.widen (k := 335) (n := 33214) (Nat.le_of_ble_eq_true rfl) (Nat.le_of_ble_eq_true rfl) ?_
  obtain rfl : r_6 = (-1) := hw
  refine lv_icmp_eq (tgt := 1629) hx hb dL_law_1153 (by decide) (fun c_7 => ?_) (fun c_7 => absurd (by decide) c_7)
  exact lc_exit C0 hS (by decide) (by decide) ls (lv_sub hl [0, 4] rfl)
set_option maxHeartbeats 4000000 in
set_option maxRecDepth 100000 in
theorem lc_27 {p : Program} {l : Launch} {e : Env} {s : State} {m : MethodId} {below : List Frame} {meth : Method} {c : Code} {b : Nat} {xs : Nat → Int32} {H : Heap} {locs : List Loc} {ls : Array Slot} {dC : Nat → ClassId} {dI : Nat → Nat → Nat} {sk sv : Nat → Nat} {s2 tz s3 : Nat} (q r : Nat → Nat) (kB : ClassId) (kR : ClassId) (kT : ClassId) (kU : ClassId) (kL : ClassId) (kN : ClassId) (fB fT : Nat → Int32) (qo : Nat) (hlt : l.stackTraces = false) (C0 : lw_At p s m meth c b 6 xs) (hG : gxP s) (hE : exP sk sv s2 tz (fun q : Nat => s.heap.size ≤ q) s s.heap) (hT : tP s3 (fun q : Nat => s.heap.size ≤ q) s s.heap) (hK : va_K (dC, dI) vwCl [(kB, .int), (kR, .int), (kT, .byte), (kU, .int), (kL, .int), (kN, .int)] s) (hP : va_P (dC, dI) vwCl (fwL q r kB kR kT kU kL kN fB fT) H) (hD : va_D (fun q : Nat => s.heap.size ≤ q) (fwL q r kB kR kT kU kL kN fB fT)) (hS : va_S (fun q : Nat => s.heap.size ≤ q) s.heap H locs) (hl : lv_has ls 7 [(0, .ref b), (1, .ref (q 15)), (2, .ref (r 100)), (3, .ref qo), (4, .int 0)]) : W p l e room_1 s m #[Value.ref b] below meth c H locs 335 33214 (lw_Z below #[Value.ref b] s) (F0 m 1158 ls []) := by
  obtain ⟨hx, hb, hr, hml, hown0, hts, hX, hbl, hlocks, hgv⟩ := id C0
  have hown : s.vm.findClass RL = some m.cls := hown0
  have hA : ∀ q : Nat, s.heap.size ≤ q → (fun q : Nat => s.heap.size ≤ q) q := fun _ h => h
  have hbA : ¬ (fun q : Nat => s.heap.size ≤ q) b := Nat.not_le.mpr hbl
  have hiX11 : ∀ w ∈ u_ws RX11 TX11 17, w ∈ lw_tbl := in_X11
  have hiX12 : ∀ w ∈ u_ws RX12 TX12 54, w ∈ lw_tbl := in_X12
  refine lv_aload_n hx hb dL_law_1158 rfl (lv_at hl 1 rfl) ?_
  have hPc := hP.sub (ws' := [((q 15), .inr (11, xF q 0 1)), ((q 1), .inr (5, [.int 0, .int 0, .int 0, .int 0, .ref (q 20), .ref (q 21), .ref (q 22), .ref (q 23)]))]) [0, 3] rfl
  have hDc := hD.sub (ws' := [((q 15), .inr (11, xF q 0 1)), ((q 1), .inr (5, [.int 0, .int 0, .int 0, .int 0, .ref (q 20), .ref (q 21), .ref (q 22), .ref (q 23)]))]) [0, 3] (by decide) rfl
  have hKc := hK.sub (tys' := []) [] rfl
  have hFc := va_free (wc := [((q 15), .inr (11, xF q 0 1)), ((q 1), .inr (5, [.int 0, .int 0, .int 0, .int 0, .ref (q 20), .ref (q 21), .ref (q 22), .ref (q 23)]))]) hD hS hA [0, 3] rfl
  refine va_calli (va_runV (As := []) (rest := []) ⟨hx, hb, hml, hown, hts⟩ (f_X11_ask l dC dI H.size q ) (cwV 0 hts g_f_L_law_f_X11_ask rfl rfl rfl (by decide +kernel) ⟨Nat.le_of_ble_eq_true rfl, Nat.le_of_ble_eq_true rfl⟩) ⟨cW_blind, va_recv hKc hPc (ci := 11) (q0 := 0) rfl rfl, fun U hU hW => ⟨rfl, cW_use hU hW hPc hKc hDc hG⟩⟩ rfl rfl hl.1 rfl (lv_room (Nat.le_of_ble_eq_true rfl)) dL_law_1159 ⟨Nat.le_of_ble_eq_true rfl, Nat.le_of_ble_eq_true rfl⟩) hS (fun q _ h => hFc q h) hFc (fun r_1 u t H1 locs ht hvm hw hB hz1 hk1 hS => ?_)
  obtain ⟨hP, hD⟩ := va_join (wr := [((r 100), .inr (12, mF r 0 0 0 0 0 0 0 0 0 0 0 0 0 (-1) 1)), ((r 1), .inl (kT, 240, .inl fT)), ((r 18), .inl (kU, 2, .inl (fun _ => 0))), ((r 24), .inl (kL, 5, .inl (fun _ => 0))), ((r 32), .inl (kN, 208, .inl (fun _ => 0)))]) (w1 := []) hP hD [0, 3] [12, 13, 14, 15, 16] rfl rfl (by decide) (by decide) hk1 hFc (va_P_nil H1) va_D_nil
  generalize H1 = H at hP hS ⊢
  have hP : va_P (dC, dI) vwCl [((r 100), .inr (12, mF r 0 0 0 0 0 0 0 0 0 0 0 0 0 (-1) 1)), ((r 1), .inl (kT, 240, .inl fT)), ((r 18), .inl (kU, 2, .inl (fun _ => 0))), ((r 24), .inl (kL, 5, .inl (fun _ => 0))), ((r 32), .inl (kN, 208, .inl (fun _ => 0)))] H := hP
  have hD : va_D (fun q : Nat => s.heap.size ≤ q) [((r 100), .inr (12, mF r 0 0 0 0 0 0 0 0 0 0 0 0 0 (-1) 1)), ((r 1), .inl (kT, 240, .inl fT)), ((r 18), .inl (kU, 2, .inl (fun _ => 0))), ((r 24), .inl (kL, 5, .inl (fun _ => 0))), ((r 32), .inl (kN, 208, .inl (fun _ => 0)))] := hD
  refine W.widen (k := 335) (n := 33214) (Nat.le_of_ble_eq_true rfl) (Nat.le_of_ble_eq_true rfl) ?_
  obtain rfl : r_1 = (-1) := hw
  refine lv_aload_n hx hb dL_law_1162 rfl (lv_at hl 2 rfl) ?_
  have hPc := hP.sub (ws' := [((r 100), .inr (12, mF r 0 0 0 0 0 0 0 0 0 0 0 0 0 (-1) 1))]) [0] rfl
  have hDc := hD.sub (ws' := [((r 100), .inr (12, mF r 0 0 0 0 0 0 0 0 0 0 0 0 0 (-1) 1))]) [0] (by decide) rfl
  have hKc := hK.sub (tys' := []) [] rfl
  have hFc := va_free (wc := [((r 100), .inr (12, mF r 0 0 0 0 0 0 0 0 0 0 0 0 0 (-1) 1))]) hD hS hA [0] rfl
  refine va_calli (va_runV (As := []) (rest := [.int (-1)]) ⟨hx, hb, hml, hown, hts⟩ (f_X12_ask l dC dI H.size r ) (cwV 0 hts g_f_L_law_f_X12_ask rfl rfl rfl (by decide +kernel) ⟨Nat.le_of_ble_eq_true rfl, Nat.le_of_ble_eq_true rfl⟩) ⟨cW_blind, va_recv hKc hPc (ci := 12) (q0 := 0) rfl rfl, fun U hU hW => ⟨rfl, cW_use hU hW hPc hKc hDc hG⟩⟩ rfl rfl hl.1 rfl (lv_room (Nat.le_of_ble_eq_true rfl)) dL_law_1163 ⟨Nat.le_of_ble_eq_true rfl, Nat.le_of_ble_eq_true rfl⟩) hS (fun q _ h => hFc q h) hFc (fun r_2 u t H1 locs ht hvm hw hB hz1 hk1 hS => ?_)
  obtain ⟨hP, hD⟩ := va_join (wr := [((r 1), .inl (kT, 240, .inl fT)), ((r 18), .inl (kU, 2, .inl (fun _ => 0))), ((r 24), .inl (kL, 5, .inl (fun _ => 0))), ((r 32), .inl (kN, 208, .inl (fun _ => 0)))]) (w1 := []) hP hD [0] [1, 2, 3, 4] rfl rfl (by decide) (by decide) hk1 hFc (va_P_nil H1) va_D_nil
  generalize H1 = H at hP hS ⊢
  have hP : va_P (dC, dI) vwCl [((r 1), .inl (kT, 240, .inl fT)), ((r 18), .inl (kU, 2, .inl (fun _ => 0))), ((r 24), .inl (kL, 5, .inl (fun _ => 0))), ((r 32), .inl (kN, 208, .inl (fun _ => 0)))] H := hP
  have hD : va_D (fun q : Nat => s.heap.size ≤ q) [((r 1), .inl (kT, 240, .inl fT)), ((r 18), .inl (kU, 2, .inl (fun _ => 0))), ((r 24), .inl (kL, 5, .inl (fun _ => 0))), ((r 32), .inl (kN, 208, .inl (fun _ => 0)))] := hD
  refine W.widen (k := 335) (n := 33214) (Nat.le_of_ble_eq_true rfl) (Nat.le_of_ble_eq_true rfl) ?_
  obtain rfl : r_2 = (-1) := hw
  refine lv_icmp_eq (tgt := 1629) hx hb dL_law_1166 (by decide) (fun c_3 => ?_) (fun c_3 => absurd (by decide) c_3)
  exact lc_exit C0 hS (by decide) (by decide) ls (lv_sub hl [0, 4] rfl)
set_option maxHeartbeats 4000000 in
set_option maxRecDepth 100000 in
theorem lc_28 {p : Program} {l : Launch} {e : Env} {s : State} {m : MethodId} {below : List Frame} {meth : Method} {c : Code} {b : Nat} {xs : Nat → Int32} {H : Heap} {locs : List Loc} {ls : Array Slot} {dC : Nat → ClassId} {dI : Nat → Nat → Nat} {sk sv : Nat → Nat} {s2 tz s3 : Nat} (q r : Nat → Nat) (kB : ClassId) (kR : ClassId) (kT : ClassId) (kU : ClassId) (kL : ClassId) (kN : ClassId) (fB fT : Nat → Int32) (qo : Nat) (hlt : l.stackTraces = false) (C0 : lw_At p s m meth c b 6 xs) (hG : gxP s) (hE : exP sk sv s2 tz (fun q : Nat => s.heap.size ≤ q) s s.heap) (hT : tP s3 (fun q : Nat => s.heap.size ≤ q) s s.heap) (hK : va_K (dC, dI) vwCl [(kB, .int), (kR, .int), (kT, .byte), (kU, .int), (kL, .int), (kN, .int)] s) (hP : va_P (dC, dI) vwCl (fwL q r kB kR kT kU kL kN fB fT) H) (hD : va_D (fun q : Nat => s.heap.size ≤ q) (fwL q r kB kR kT kU kL kN fB fT)) (hS : va_S (fun q : Nat => s.heap.size ≤ q) s.heap H locs) (hl : lv_has ls 7 [(0, .ref b), (1, .ref (q 15)), (2, .ref (r 100)), (3, .ref qo), (4, .int 0)]) : W p l e room_1 s m #[Value.ref b] below meth c H locs 335 33214 (lw_Z below #[Value.ref b] s) (F0 m 1171 ls []) := by
  obtain ⟨hx, hb, hr, hml, hown0, hts, hX, hbl, hlocks, hgv⟩ := id C0
  have hown : s.vm.findClass RL = some m.cls := hown0
  have hA : ∀ q : Nat, s.heap.size ≤ q → (fun q : Nat => s.heap.size ≤ q) q := fun _ h => h
  have hbA : ¬ (fun q : Nat => s.heap.size ≤ q) b := Nat.not_le.mpr hbl
  have hiX11 : ∀ w ∈ u_ws RX11 TX11 17, w ∈ lw_tbl := in_X11
  have hiX12 : ∀ w ∈ u_ws RX12 TX12 54, w ∈ lw_tbl := in_X12
  refine lv_aload_n hx hb dL_law_1171 rfl (lv_at hl 1 rfl) ?_
  refine lv_aload_n hx hb dL_law_1172 rfl (lv_at hl 0 rfl) ?_
  refine lv_iload hx hb dL_law_1173 (lv_at hl 4 rfl) ?_
  refine lv_iconst (v := 1) hx hb dL_law_1175 (by decide) ?_
  refine lv_iadd hx hb dL_law_1176 ?_
  refine lv_topi (fun v_1 e_1 => ?_)
  obtain rfl : v_1 = 1 := by rw [e_1]; decide
  refine va_sld hx hb hX hbl hbA hS (i := 1) (vp_in_nI (n := 1) (by decide) (by decide)) dL_law_1177 ?_
  refine lv_topi (fun v_2 e_2 => ?_)
  obtain rfl : v_2 = xs 1 := by rw [e_2]; exact congrArg xs (by decide)
  have hPc := hP.sub (ws' := [((q 15), .inr (11, xF q 0 1)), ((q 1), .inr (5, [.int 0, .int 0, .int 0, .int 0, .ref (q 20), .ref (q 21), .ref (q 22), .ref (q 23)]))]) [0, 3] rfl
  have hDc := hD.sub (ws' := [((q 15), .inr (11, xF q 0 1)), ((q 1), .inr (5, [.int 0, .int 0, .int 0, .int 0, .ref (q 20), .ref (q 21), .ref (q 22), .ref (q 23)]))]) [0, 3] (by decide) rfl
  have hKc := hK.sub (tys' := []) [] rfl
  have hFc := va_free (wc := [((q 15), .inr (11, xF q 0 1)), ((q 1), .inr (5, [.int 0, .int 0, .int 0, .int 0, .ref (q 20), .ref (q 21), .ref (q 22), .ref (q 23)]))]) hD hS hA [0, 3] rfl
  refine va_calli (va_runV (As := [.int (xs 1)]) (rest := []) ⟨hx, hb, hml, hown, hts⟩ (f_X11_walls l dC dI H.size q ((xs 1))) (cwV 1 hts g_f_L_law_f_X11_walls rfl rfl rfl (by decide +kernel) ⟨Nat.le_of_ble_eq_true rfl, Nat.le_of_ble_eq_true rfl⟩) ⟨cW_blind, va_recv hKc hPc (ci := 11) (q0 := 0) rfl rfl, fun U hU hW => ⟨rfl, cW_use hU hW hPc hKc hDc hG⟩⟩ rfl rfl hl.1 rfl (lv_room (Nat.le_of_ble_eq_true rfl)) dL_law_1178 ⟨Nat.le_of_ble_eq_true rfl, Nat.le_of_ble_eq_true rfl⟩) hS (fun q _ h => hFc q h) hFc (fun r_3 u t H1 locs ht hvm hw hB hz1 hk1 hS => ?_)
  obtain ⟨hP, hD⟩ := va_join (wr := [((r 100), .inr (12, mF r 0 0 0 0 0 0 0 0 0 0 0 0 0 (-1) 1)), ((r 1), .inl (kT, 240, .inl fT)), ((r 18), .inl (kU, 2, .inl (fun _ => 0))), ((r 24), .inl (kL, 5, .inl (fun _ => 0))), ((r 32), .inl (kN, 208, .inl (fun _ => 0)))]) (w1 := []) hP hD [0, 3] [12, 13, 14, 15, 16] rfl rfl (by decide) (by decide) hk1 hFc (va_P_nil H1) va_D_nil
  generalize H1 = H at hP hS ⊢
  have hP : va_P (dC, dI) vwCl [((r 100), .inr (12, mF r 0 0 0 0 0 0 0 0 0 0 0 0 0 (-1) 1)), ((r 1), .inl (kT, 240, .inl fT)), ((r 18), .inl (kU, 2, .inl (fun _ => 0))), ((r 24), .inl (kL, 5, .inl (fun _ => 0))), ((r 32), .inl (kN, 208, .inl (fun _ => 0)))] H := hP
  have hD : va_D (fun q : Nat => s.heap.size ≤ q) [((r 100), .inr (12, mF r 0 0 0 0 0 0 0 0 0 0 0 0 0 (-1) 1)), ((r 1), .inl (kT, 240, .inl fT)), ((r 18), .inl (kU, 2, .inl (fun _ => 0))), ((r 24), .inl (kL, 5, .inl (fun _ => 0))), ((r 32), .inl (kN, 208, .inl (fun _ => 0)))] := hD
  refine W.widen (k := 335) (n := 33214) (Nat.le_of_ble_eq_true rfl) (Nat.le_of_ble_eq_true rfl) ?_
  obtain rfl : r_3 = (-1) := hw
  refine lv_aload_n hx hb dL_law_1181 rfl (lv_at hl 2 rfl) ?_
  refine lv_aload_n hx hb dL_law_1182 rfl (lv_at hl 0 rfl) ?_
  refine lv_iload hx hb dL_law_1183 (lv_at hl 4 rfl) ?_
  refine lv_iconst (v := 1) hx hb dL_law_1185 (by decide) ?_
  refine lv_iadd hx hb dL_law_1186 ?_
  refine lv_topi (fun v_4 e_4 => ?_)
  obtain rfl : v_4 = 1 := by rw [e_4]; decide
  refine va_sld hx hb hX hbl hbA hS (i := 1) (vp_in_nI (n := 1) (by decide) (by decide)) dL_law_1187 ?_
  refine lv_topi (fun v_5 e_5 => ?_)
  obtain rfl : v_5 = xs 1 := by rw [e_5]; exact congrArg xs (by decide)
  have hPc := hP.sub (ws' := [((r 100), .inr (12, mF r 0 0 0 0 0 0 0 0 0 0 0 0 0 (-1) 1))]) [0] rfl
  have hDc := hD.sub (ws' := [((r 100), .inr (12, mF r 0 0 0 0 0 0 0 0 0 0 0 0 0 (-1) 1))]) [0] (by decide) rfl
  have hKc := hK.sub (tys' := []) [] rfl
  have hFc := va_free (wc := [((r 100), .inr (12, mF r 0 0 0 0 0 0 0 0 0 0 0 0 0 (-1) 1))]) hD hS hA [0] rfl
  refine va_calli (va_runV (As := [.int (xs 1)]) (rest := [.int (-1)]) ⟨hx, hb, hml, hown, hts⟩ (f_X12_walls l dC dI H.size r ((xs 1))) (cwV 1 hts g_f_L_law_f_X12_walls rfl rfl rfl (by decide +kernel) ⟨Nat.le_of_ble_eq_true rfl, Nat.le_of_ble_eq_true rfl⟩) ⟨cW_blind, va_recv hKc hPc (ci := 12) (q0 := 0) rfl rfl, fun U hU hW => ⟨rfl, cW_use hU hW hPc hKc hDc hG⟩⟩ rfl rfl hl.1 rfl (lv_room (Nat.le_of_ble_eq_true rfl)) dL_law_1188 ⟨Nat.le_of_ble_eq_true rfl, Nat.le_of_ble_eq_true rfl⟩) hS (fun q _ h => hFc q h) hFc (fun r_6 u t H1 locs ht hvm hw hB hz1 hk1 hS => ?_)
  obtain ⟨hP, hD⟩ := va_join (wr := [((r 1), .inl (kT, 240, .inl fT)), ((r 18), .inl (kU, 2, .inl (fun _ => 0))), ((r 24), .inl (kL, 5, .inl (fun _ => 0))), ((r 32), .inl (kN, 208, .inl (fun _ => 0)))]) (w1 := []) hP hD [0] [1, 2, 3, 4] rfl rfl (by decide) (by decide) hk1 hFc (va_P_nil H1) va_D_nil
  generalize H1 = H at hP hS ⊢
  have hP : va_P (dC, dI) vwCl [((r 1), .inl (kT, 240, .inl fT)), ((r 18), .inl (kU, 2, .inl (fun _ => 0))), ((r 24), .inl (kL, 5, .inl (fun _ => 0))), ((r 32), .inl (kN, 208, .inl (fun _ => 0)))] H := hP
  have hD : va_D (fun q : Nat => s.heap.size ≤ q) [((r 1), .inl (kT, 240, .inl fT)), ((r 18), .inl (kU, 2, .inl (fun _ => 0))), ((r 24), .inl (kL, 5, .inl (fun _ => 0))), ((r 32), .inl (kN, 208, .inl (fun _ => 0)))] := hD
  refine W.widen (k := 335) (n := 33214) (Nat.le_of_ble_eq_true rfl) (Nat.le_of_ble_eq_true rfl) ?_
  obtain rfl : r_6 = (-1) := hw
  refine lv_icmp_eq (tgt := 1629) hx hb dL_law_1191 (by decide) (fun c_7 => ?_) (fun c_7 => absurd (by decide) c_7)
  exact lc_exit C0 hS (by decide) (by decide) ls (lv_sub hl [0, 4] rfl)
