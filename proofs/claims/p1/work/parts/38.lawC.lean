set_option maxRecDepth 20000 in
theorem dL_law_1043 : decode cL_law 1043 = .ok (.aload_n 1, 1) := by decide +kernel
set_option maxRecDepth 20000 in
theorem dL_law_1044 : decode cL_law 1044 = .ok (.aload_n 0, 1) := by decide +kernel
set_option maxRecDepth 20000 in
theorem dL_law_1045 : decode cL_law 1045 = .ok (.iload 4, 2) := by decide +kernel
set_option maxRecDepth 20000 in
theorem dL_law_1047 : decode cL_law 1047 = .ok (.iconst 1, 1) := by decide +kernel
set_option maxRecDepth 20000 in
theorem dL_law_1048 : decode cL_law 1048 = .ok (.iadd, 1) := by decide +kernel
set_option maxRecDepth 20000 in
theorem dL_law_1049 : decode cL_law 1049 = .ok (.iaload, 1) := by decide +kernel
set_option maxRecDepth 20000 in
theorem dL_law_1050 : decode cL_law 1050 = .ok (.aload_n 0, 1) := by decide +kernel
set_option maxRecDepth 20000 in
theorem dL_law_1051 : decode cL_law 1051 = .ok (.iload 4, 2) := by decide +kernel
set_option maxRecDepth 20000 in
theorem dL_law_1053 : decode cL_law 1053 = .ok (.iconst 2, 1) := by decide +kernel
set_option maxRecDepth 20000 in
theorem dL_law_1054 : decode cL_law 1054 = .ok (.iadd, 1) := by decide +kernel
set_option maxRecDepth 20000 in
theorem dL_law_1055 : decode cL_law 1055 = .ok (.iaload, 1) := by decide +kernel
set_option maxRecDepth 20000 in
theorem dL_law_1056 : decode cL_law 1056 = .ok (.invokevirtual 127, 3) := by decide +kernel
set_option maxRecDepth 20000 in
theorem dL_law_1059 : decode cL_law 1059 = .ok (.aload_n 2, 1) := by decide +kernel
set_option maxRecDepth 20000 in
theorem dL_law_1060 : decode cL_law 1060 = .ok (.aload_n 0, 1) := by decide +kernel
set_option maxRecDepth 20000 in
theorem dL_law_1061 : decode cL_law 1061 = .ok (.iload 4, 2) := by decide +kernel
set_option maxRecDepth 20000 in
theorem dL_law_1063 : decode cL_law 1063 = .ok (.iconst 1, 1) := by decide +kernel
set_option maxRecDepth 20000 in
theorem dL_law_1064 : decode cL_law 1064 = .ok (.iadd, 1) := by decide +kernel
set_option maxRecDepth 20000 in
theorem dL_law_1065 : decode cL_law 1065 = .ok (.iaload, 1) := by decide +kernel
set_option maxRecDepth 20000 in
theorem dL_law_1066 : decode cL_law 1066 = .ok (.aload_n 0, 1) := by decide +kernel
set_option maxRecDepth 20000 in
theorem dL_law_1067 : decode cL_law 1067 = .ok (.iload 4, 2) := by decide +kernel
set_option maxRecDepth 20000 in
theorem dL_law_1069 : decode cL_law 1069 = .ok (.iconst 2, 1) := by decide +kernel
set_option maxRecDepth 20000 in
theorem dL_law_1070 : decode cL_law 1070 = .ok (.iadd, 1) := by decide +kernel
set_option maxRecDepth 20000 in
theorem dL_law_1071 : decode cL_law 1071 = .ok (.iaload, 1) := by decide +kernel
set_option maxRecDepth 20000 in
theorem dL_law_1072 : decode cL_law 1072 = .ok (.invokevirtual 130, 3) := by decide +kernel
set_option maxRecDepth 20000 in
theorem dL_law_1075 : decode cL_law 1075 = .ok (.if_icmp .eq 554, 3) := by decide +kernel
set_option maxRecDepth 20000 in
theorem dL_law_1080 : decode cL_law 1080 = .ok (.aload_n 1, 1) := by decide +kernel
set_option maxRecDepth 20000 in
theorem dL_law_1081 : decode cL_law 1081 = .ok (.aload_n 0, 1) := by decide +kernel
set_option maxRecDepth 20000 in
theorem dL_law_1082 : decode cL_law 1082 = .ok (.iload 4, 2) := by decide +kernel
set_option maxRecDepth 20000 in
theorem dL_law_1084 : decode cL_law 1084 = .ok (.iconst 1, 1) := by decide +kernel
set_option maxRecDepth 20000 in
theorem dL_law_1085 : decode cL_law 1085 = .ok (.iadd, 1) := by decide +kernel
set_option maxRecDepth 20000 in
theorem dL_law_1086 : decode cL_law 1086 = .ok (.iaload, 1) := by decide +kernel
set_option maxRecDepth 20000 in
theorem dL_law_1087 : decode cL_law 1087 = .ok (.aload_n 0, 1) := by decide +kernel
set_option maxRecDepth 20000 in
theorem dL_law_1088 : decode cL_law 1088 = .ok (.iload 4, 2) := by decide +kernel
set_option maxRecDepth 20000 in
theorem dL_law_1090 : decode cL_law 1090 = .ok (.iconst 2, 1) := by decide +kernel
set_option maxRecDepth 20000 in
theorem dL_law_1091 : decode cL_law 1091 = .ok (.iadd, 1) := by decide +kernel
set_option maxRecDepth 20000 in
theorem dL_law_1092 : decode cL_law 1092 = .ok (.iaload, 1) := by decide +kernel
set_option maxRecDepth 20000 in
theorem dL_law_1093 : decode cL_law 1093 = .ok (.ifCond .eq 7, 3) := by decide +kernel
set_option maxRecDepth 20000 in
theorem dL_law_1096 : decode cL_law 1096 = .ok (.iconst 1, 1) := by decide +kernel
set_option maxRecDepth 20000 in
theorem dL_law_1097 : decode cL_law 1097 = .ok (.goto 4, 3) := by decide +kernel
set_option maxRecDepth 20000 in
theorem dL_law_1100 : decode cL_law 1100 = .ok (.iconst 0, 1) := by decide +kernel
set_option maxRecDepth 20000 in
theorem dL_law_1101 : decode cL_law 1101 = .ok (.invokevirtual 131, 3) := by decide +kernel
set_option maxRecDepth 20000 in
theorem dL_law_1104 : decode cL_law 1104 = .ok (.aload_n 2, 1) := by decide +kernel
set_option maxRecDepth 20000 in
theorem dL_law_1105 : decode cL_law 1105 = .ok (.aload_n 0, 1) := by decide +kernel
set_option maxRecDepth 20000 in
theorem dL_law_1106 : decode cL_law 1106 = .ok (.iload 4, 2) := by decide +kernel
set_option maxRecDepth 20000 in
theorem dL_law_1108 : decode cL_law 1108 = .ok (.iconst 1, 1) := by decide +kernel
set_option maxRecDepth 20000 in
theorem dL_law_1109 : decode cL_law 1109 = .ok (.iadd, 1) := by decide +kernel
set_option maxRecDepth 20000 in
theorem dL_law_1110 : decode cL_law 1110 = .ok (.iaload, 1) := by decide +kernel
set_option maxRecDepth 20000 in
theorem dL_law_1111 : decode cL_law 1111 = .ok (.aload_n 0, 1) := by decide +kernel
set_option maxRecDepth 20000 in
theorem dL_law_1112 : decode cL_law 1112 = .ok (.iload 4, 2) := by decide +kernel
set_option maxRecDepth 20000 in
theorem dL_law_1114 : decode cL_law 1114 = .ok (.iconst 2, 1) := by decide +kernel
set_option maxRecDepth 20000 in
theorem dL_law_1115 : decode cL_law 1115 = .ok (.iadd, 1) := by decide +kernel
set_option maxRecDepth 20000 in
theorem dL_law_1116 : decode cL_law 1116 = .ok (.iaload, 1) := by decide +kernel
set_option maxRecDepth 20000 in
theorem dL_law_1117 : decode cL_law 1117 = .ok (.ifCond .eq 7, 3) := by decide +kernel
set_option maxRecDepth 20000 in
theorem dL_law_1120 : decode cL_law 1120 = .ok (.iconst 1, 1) := by decide +kernel
set_option maxRecDepth 20000 in
theorem dL_law_1121 : decode cL_law 1121 = .ok (.goto 4, 3) := by decide +kernel
set_option maxRecDepth 20000 in
theorem dL_law_1124 : decode cL_law 1124 = .ok (.iconst 0, 1) := by decide +kernel
set_option maxRecDepth 20000 in
theorem dL_law_1125 : decode cL_law 1125 = .ok (.invokevirtual 135, 3) := by decide +kernel
set_option maxRecDepth 20000 in
theorem dL_law_1128 : decode cL_law 1128 = .ok (.if_icmp .eq 501, 3) := by decide +kernel
set_option maxRecDepth 20000 in
theorem dL_law_1133 : decode cL_law 1133 = .ok (.aload_n 1, 1) := by decide +kernel
set_option maxRecDepth 20000 in
theorem dL_law_1134 : decode cL_law 1134 = .ok (.aload_n 0, 1) := by decide +kernel
set_option maxRecDepth 20000 in
theorem dL_law_1135 : decode cL_law 1135 = .ok (.iload 4, 2) := by decide +kernel
set_option maxRecDepth 20000 in
theorem dL_law_1137 : decode cL_law 1137 = .ok (.iconst 1, 1) := by decide +kernel
set_option maxRecDepth 20000 in
theorem dL_law_1138 : decode cL_law 1138 = .ok (.iadd, 1) := by decide +kernel
set_option maxRecDepth 20000 in
theorem dL_law_1139 : decode cL_law 1139 = .ok (.iaload, 1) := by decide +kernel
set_option maxRecDepth 20000 in
theorem dL_law_1140 : decode cL_law 1140 = .ok (.invokevirtual 136, 3) := by decide +kernel
set_option maxRecDepth 20000 in
theorem dL_law_1143 : decode cL_law 1143 = .ok (.aload_n 2, 1) := by decide +kernel
set_option maxRecDepth 20000 in
theorem dL_law_1144 : decode cL_law 1144 = .ok (.aload_n 0, 1) := by decide +kernel
set_option maxRecDepth 20000 in
theorem dL_law_1145 : decode cL_law 1145 = .ok (.iload 4, 2) := by decide +kernel
set_option maxRecDepth 20000 in
theorem dL_law_1147 : decode cL_law 1147 = .ok (.iconst 1, 1) := by decide +kernel
set_option maxRecDepth 20000 in
theorem dL_law_1148 : decode cL_law 1148 = .ok (.iadd, 1) := by decide +kernel
set_option maxRecDepth 20000 in
theorem dL_law_1149 : decode cL_law 1149 = .ok (.iaload, 1) := by decide +kernel
set_option maxRecDepth 20000 in
theorem dL_law_1150 : decode cL_law 1150 = .ok (.invokevirtual 139, 3) := by decide +kernel
set_option maxRecDepth 20000 in
theorem dL_law_1153 : decode cL_law 1153 = .ok (.if_icmp .eq 476, 3) := by decide +kernel
set_option maxRecDepth 20000 in
theorem dL_law_1158 : decode cL_law 1158 = .ok (.aload_n 1, 1) := by decide +kernel
set_option maxRecDepth 20000 in
theorem dL_law_1159 : decode cL_law 1159 = .ok (.invokevirtual 140, 3) := by decide +kernel
set_option maxRecDepth 20000 in
theorem dL_law_1162 : decode cL_law 1162 = .ok (.aload_n 2, 1) := by decide +kernel
set_option maxRecDepth 20000 in
theorem dL_law_1163 : decode cL_law 1163 = .ok (.invokevirtual 143, 3) := by decide +kernel
set_option maxRecDepth 20000 in
theorem dL_law_1166 : decode cL_law 1166 = .ok (.if_icmp .eq 463, 3) := by decide +kernel
set_option maxRecDepth 20000 in
theorem dL_law_1171 : decode cL_law 1171 = .ok (.aload_n 1, 1) := by decide +kernel
set_option maxRecDepth 20000 in
theorem dL_law_1172 : decode cL_law 1172 = .ok (.aload_n 0, 1) := by decide +kernel
set_option maxRecDepth 20000 in
theorem dL_law_1173 : decode cL_law 1173 = .ok (.iload 4, 2) := by decide +kernel
set_option maxRecDepth 20000 in
theorem dL_law_1175 : decode cL_law 1175 = .ok (.iconst 1, 1) := by decide +kernel
set_option maxRecDepth 20000 in
theorem dL_law_1176 : decode cL_law 1176 = .ok (.iadd, 1) := by decide +kernel
set_option maxRecDepth 20000 in
theorem dL_law_1177 : decode cL_law 1177 = .ok (.iaload, 1) := by decide +kernel
set_option maxRecDepth 20000 in
theorem dL_law_1178 : decode cL_law 1178 = .ok (.invokevirtual 144, 3) := by decide +kernel
set_option maxRecDepth 20000 in
theorem dL_law_1181 : decode cL_law 1181 = .ok (.aload_n 2, 1) := by decide +kernel
set_option maxRecDepth 20000 in
theorem dL_law_1182 : decode cL_law 1182 = .ok (.aload_n 0, 1) := by decide +kernel
set_option maxRecDepth 20000 in
theorem dL_law_1183 : decode cL_law 1183 = .ok (.iload 4, 2) := by decide +kernel
set_option maxRecDepth 20000 in
theorem dL_law_1185 : decode cL_law 1185 = .ok (.iconst 1, 1) := by decide +kernel
set_option maxRecDepth 20000 in
theorem dL_law_1186 : decode cL_law 1186 = .ok (.iadd, 1) := by decide +kernel
set_option maxRecDepth 20000 in
theorem dL_law_1187 : decode cL_law 1187 = .ok (.iaload, 1) := by decide +kernel
set_option maxRecDepth 20000 in
theorem dL_law_1188 : decode cL_law 1188 = .ok (.invokevirtual 147, 3) := by decide +kernel
set_option maxRecDepth 20000 in
theorem dL_law_1191 : decode cL_law 1191 = .ok (.if_icmp .eq 438, 3) := by decide +kernel
set_option maxRecDepth 20000 in
theorem dL_law_1196 : decode cL_law 1196 = .ok (.aload_n 1, 1) := by decide +kernel
set_option maxRecDepth 20000 in
theorem dL_law_1197 : decode cL_law 1197 = .ok (.aload_n 0, 1) := by decide +kernel
set_option maxRecDepth 20000 in
theorem dL_law_1198 : decode cL_law 1198 = .ok (.iload 4, 2) := by decide +kernel
set_option maxRecDepth 20000 in
theorem dL_law_1200 : decode cL_law 1200 = .ok (.iconst 1, 1) := by decide +kernel
set_option maxRecDepth 20000 in
theorem dL_law_1201 : decode cL_law 1201 = .ok (.iadd, 1) := by decide +kernel
set_option maxRecDepth 20000 in
theorem dL_law_1202 : decode cL_law 1202 = .ok (.iaload, 1) := by decide +kernel
set_option maxRecDepth 20000 in
theorem dL_law_1203 : decode cL_law 1203 = .ok (.aload_n 0, 1) := by decide +kernel
set_option maxRecDepth 20000 in
theorem dL_law_1204 : decode cL_law 1204 = .ok (.iload 4, 2) := by decide +kernel
set_option maxRecDepth 20000 in
theorem dL_law_1206 : decode cL_law 1206 = .ok (.iconst 2, 1) := by decide +kernel
set_option maxRecDepth 20000 in
theorem dL_law_1207 : decode cL_law 1207 = .ok (.iadd, 1) := by decide +kernel
set_option maxRecDepth 20000 in
theorem dL_law_1208 : decode cL_law 1208 = .ok (.iaload, 1) := by decide +kernel
set_option maxRecDepth 20000 in
theorem dL_law_1209 : decode cL_law 1209 = .ok (.invokevirtual 148, 3) := by decide +kernel
set_option maxRecDepth 20000 in
theorem dL_law_1212 : decode cL_law 1212 = .ok (.aload_n 2, 1) := by decide +kernel
set_option maxRecDepth 20000 in
theorem dL_law_1213 : decode cL_law 1213 = .ok (.aload_n 0, 1) := by decide +kernel
set_option maxRecDepth 20000 in
theorem dL_law_1214 : decode cL_law 1214 = .ok (.iload 4, 2) := by decide +kernel
set_option maxRecDepth 20000 in
theorem dL_law_1216 : decode cL_law 1216 = .ok (.iconst 1, 1) := by decide +kernel
set_option maxRecDepth 20000 in
theorem dL_law_1217 : decode cL_law 1217 = .ok (.iadd, 1) := by decide +kernel
set_option maxRecDepth 20000 in
theorem dL_law_1218 : decode cL_law 1218 = .ok (.iaload, 1) := by decide +kernel
set_option maxRecDepth 20000 in
theorem dL_law_1219 : decode cL_law 1219 = .ok (.aload_n 0, 1) := by decide +kernel
set_option maxRecDepth 20000 in
theorem dL_law_1220 : decode cL_law 1220 = .ok (.iload 4, 2) := by decide +kernel
set_option maxRecDepth 20000 in
theorem dL_law_1222 : decode cL_law 1222 = .ok (.iconst 2, 1) := by decide +kernel
set_option maxRecDepth 20000 in
theorem dL_law_1223 : decode cL_law 1223 = .ok (.iadd, 1) := by decide +kernel
set_option maxRecDepth 20000 in
theorem dL_law_1224 : decode cL_law 1224 = .ok (.iaload, 1) := by decide +kernel
set_option maxRecDepth 20000 in
theorem dL_law_1225 : decode cL_law 1225 = .ok (.invokevirtual 151, 3) := by decide +kernel
set_option maxRecDepth 20000 in
theorem dL_law_1228 : decode cL_law 1228 = .ok (.if_icmp .eq 401, 3) := by decide +kernel
set_option maxRecDepth 20000 in
theorem dL_law_1233 : decode cL_law 1233 = .ok (.aload_n 1, 1) := by decide +kernel
set_option maxRecDepth 20000 in
theorem dL_law_1234 : decode cL_law 1234 = .ok (.aload_n 0, 1) := by decide +kernel
set_option maxRecDepth 20000 in
theorem dL_law_1235 : decode cL_law 1235 = .ok (.iload 4, 2) := by decide +kernel
set_option maxRecDepth 20000 in
theorem dL_law_1237 : decode cL_law 1237 = .ok (.iconst 1, 1) := by decide +kernel
set_option maxRecDepth 20000 in
theorem dL_law_1238 : decode cL_law 1238 = .ok (.iadd, 1) := by decide +kernel
set_option maxRecDepth 20000 in
theorem dL_law_1239 : decode cL_law 1239 = .ok (.iaload, 1) := by decide +kernel
set_option maxRecDepth 20000 in
theorem dL_law_1240 : decode cL_law 1240 = .ok (.aload_n 0, 1) := by decide +kernel
set_option maxRecDepth 20000 in
theorem dL_law_1241 : decode cL_law 1241 = .ok (.iload 4, 2) := by decide +kernel
set_option maxRecDepth 20000 in
theorem dL_law_1243 : decode cL_law 1243 = .ok (.iconst 2, 1) := by decide +kernel
set_option maxRecDepth 20000 in
theorem dL_law_1244 : decode cL_law 1244 = .ok (.iadd, 1) := by decide +kernel
set_option maxRecDepth 20000 in
theorem dL_law_1245 : decode cL_law 1245 = .ok (.iaload, 1) := by decide +kernel
set_option maxRecDepth 20000 in
theorem dL_law_1246 : decode cL_law 1246 = .ok (.invokevirtual 152, 3) := by decide +kernel
set_option maxRecDepth 20000 in
theorem dL_law_1249 : decode cL_law 1249 = .ok (.aload_n 2, 1) := by decide +kernel
set_option maxRecDepth 20000 in
theorem dL_law_1250 : decode cL_law 1250 = .ok (.aload_n 0, 1) := by decide +kernel
set_option maxRecDepth 20000 in
theorem dL_law_1251 : decode cL_law 1251 = .ok (.iload 4, 2) := by decide +kernel
set_option maxRecDepth 20000 in
theorem dL_law_1253 : decode cL_law 1253 = .ok (.iconst 1, 1) := by decide +kernel
set_option maxRecDepth 20000 in
theorem dL_law_1254 : decode cL_law 1254 = .ok (.iadd, 1) := by decide +kernel
set_option maxRecDepth 20000 in
theorem dL_law_1255 : decode cL_law 1255 = .ok (.iaload, 1) := by decide +kernel
set_option maxRecDepth 20000 in
theorem dL_law_1256 : decode cL_law 1256 = .ok (.aload_n 0, 1) := by decide +kernel
set_option maxRecDepth 20000 in
theorem dL_law_1257 : decode cL_law 1257 = .ok (.iload 4, 2) := by decide +kernel
set_option maxRecDepth 20000 in
theorem dL_law_1259 : decode cL_law 1259 = .ok (.iconst 2, 1) := by decide +kernel
set_option maxRecDepth 20000 in
theorem dL_law_1260 : decode cL_law 1260 = .ok (.iadd, 1) := by decide +kernel
set_option maxRecDepth 20000 in
theorem dL_law_1261 : decode cL_law 1261 = .ok (.iaload, 1) := by decide +kernel
set_option maxRecDepth 20000 in
theorem dL_law_1262 : decode cL_law 1262 = .ok (.invokevirtual 155, 3) := by decide +kernel
set_option maxRecDepth 20000 in
theorem dL_law_1265 : decode cL_law 1265 = .ok (.if_icmp .eq 364, 3) := by decide +kernel
set_option maxRecDepth 20000 in
theorem dL_law_1270 : decode cL_law 1270 = .ok (.aload_n 1, 1) := by decide +kernel
set_option maxRecDepth 20000 in
theorem dL_law_1271 : decode cL_law 1271 = .ok (.aload_n 0, 1) := by decide +kernel
set_option maxRecDepth 20000 in
theorem dL_law_1272 : decode cL_law 1272 = .ok (.iload 4, 2) := by decide +kernel
set_option maxRecDepth 20000 in
theorem dL_law_1274 : decode cL_law 1274 = .ok (.iconst 1, 1) := by decide +kernel
set_option maxRecDepth 20000 in
theorem dL_law_1275 : decode cL_law 1275 = .ok (.iadd, 1) := by decide +kernel
set_option maxRecDepth 20000 in
theorem dL_law_1276 : decode cL_law 1276 = .ok (.iaload, 1) := by decide +kernel
set_option maxRecDepth 20000 in
theorem dL_law_1277 : decode cL_law 1277 = .ok (.invokevirtual 156, 3) := by decide +kernel
set_option maxRecDepth 20000 in
theorem dL_law_1280 : decode cL_law 1280 = .ok (.aload_n 2, 1) := by decide +kernel
set_option maxRecDepth 20000 in
theorem dL_law_1281 : decode cL_law 1281 = .ok (.aload_n 0, 1) := by decide +kernel
set_option maxRecDepth 20000 in
theorem dL_law_1282 : decode cL_law 1282 = .ok (.iload 4, 2) := by decide +kernel
set_option maxRecDepth 20000 in
theorem dL_law_1284 : decode cL_law 1284 = .ok (.iconst 1, 1) := by decide +kernel
set_option maxRecDepth 20000 in
theorem dL_law_1285 : decode cL_law 1285 = .ok (.iadd, 1) := by decide +kernel
set_option maxRecDepth 20000 in
theorem dL_law_1286 : decode cL_law 1286 = .ok (.iaload, 1) := by decide +kernel
set_option maxRecDepth 20000 in
theorem dL_law_1287 : decode cL_law 1287 = .ok (.invokevirtual 159, 3) := by decide +kernel
set_option maxRecDepth 20000 in
theorem dL_law_1290 : decode cL_law 1290 = .ok (.if_icmp .eq 339, 3) := by decide +kernel
set_option maxRecDepth 20000 in
theorem dL_law_1295 : decode cL_law 1295 = .ok (.aload_n 1, 1) := by decide +kernel
set_option maxRecDepth 20000 in
theorem dL_law_1296 : decode cL_law 1296 = .ok (.aload_n 0, 1) := by decide +kernel
set_option maxRecDepth 20000 in
theorem dL_law_1297 : decode cL_law 1297 = .ok (.iload 4, 2) := by decide +kernel
set_option maxRecDepth 20000 in
theorem dL_law_1299 : decode cL_law 1299 = .ok (.iconst 1, 1) := by decide +kernel
set_option maxRecDepth 20000 in
theorem dL_law_1300 : decode cL_law 1300 = .ok (.iadd, 1) := by decide +kernel
set_option maxRecDepth 20000 in
theorem dL_law_1301 : decode cL_law 1301 = .ok (.iaload, 1) := by decide +kernel
set_option maxRecDepth 20000 in
theorem dL_law_1302 : decode cL_law 1302 = .ok (.invokevirtual 160, 3) := by decide +kernel
set_option maxRecDepth 20000 in
theorem dL_law_1305 : decode cL_law 1305 = .ok (.aload_n 2, 1) := by decide +kernel
set_option maxRecDepth 20000 in
theorem dL_law_1306 : decode cL_law 1306 = .ok (.aload_n 0, 1) := by decide +kernel
set_option maxRecDepth 20000 in
theorem dL_law_1307 : decode cL_law 1307 = .ok (.iload 4, 2) := by decide +kernel
set_option maxRecDepth 20000 in
theorem dL_law_1309 : decode cL_law 1309 = .ok (.iconst 1, 1) := by decide +kernel
set_option maxRecDepth 20000 in
theorem dL_law_1310 : decode cL_law 1310 = .ok (.iadd, 1) := by decide +kernel
set_option maxRecDepth 20000 in
theorem dL_law_1311 : decode cL_law 1311 = .ok (.iaload, 1) := by decide +kernel
set_option maxRecDepth 20000 in
theorem dL_law_1312 : decode cL_law 1312 = .ok (.invokevirtual 163, 3) := by decide +kernel
set_option maxRecDepth 20000 in
theorem dL_law_1315 : decode cL_law 1315 = .ok (.if_icmp .eq 314, 3) := by decide +kernel
set_option maxRecDepth 20000 in
theorem dL_law_1320 : decode cL_law 1320 = .ok (.aload_n 1, 1) := by decide +kernel
set_option maxRecDepth 20000 in
theorem dL_law_1321 : decode cL_law 1321 = .ok (.aload_n 0, 1) := by decide +kernel
set_option maxRecDepth 20000 in
theorem dL_law_1322 : decode cL_law 1322 = .ok (.iload 4, 2) := by decide +kernel
set_option maxRecDepth 20000 in
theorem dL_law_1324 : decode cL_law 1324 = .ok (.iconst 1, 1) := by decide +kernel
set_option maxRecDepth 20000 in
theorem dL_law_1325 : decode cL_law 1325 = .ok (.iadd, 1) := by decide +kernel
set_option maxRecDepth 20000 in
theorem dL_law_1326 : decode cL_law 1326 = .ok (.iaload, 1) := by decide +kernel
set_option maxRecDepth 20000 in
theorem dL_law_1327 : decode cL_law 1327 = .ok (.aload_n 0, 1) := by decide +kernel
set_option maxRecDepth 20000 in
theorem dL_law_1328 : decode cL_law 1328 = .ok (.iload 4, 2) := by decide +kernel
set_option maxRecDepth 20000 in
theorem dL_law_1330 : decode cL_law 1330 = .ok (.iconst 2, 1) := by decide +kernel
set_option maxRecDepth 20000 in
theorem dL_law_1331 : decode cL_law 1331 = .ok (.iadd, 1) := by decide +kernel
set_option maxRecDepth 20000 in
theorem dL_law_1332 : decode cL_law 1332 = .ok (.iaload, 1) := by decide +kernel
set_option maxRecDepth 20000 in
theorem dL_law_1333 : decode cL_law 1333 = .ok (.aload_n 0, 1) := by decide +kernel
set_option maxRecDepth 20000 in
theorem dL_law_1334 : decode cL_law 1334 = .ok (.iload 4, 2) := by decide +kernel
set_option maxRecDepth 20000 in
theorem dL_law_1336 : decode cL_law 1336 = .ok (.iconst 3, 1) := by decide +kernel
set_option maxRecDepth 20000 in
theorem dL_law_1337 : decode cL_law 1337 = .ok (.iadd, 1) := by decide +kernel
set_option maxRecDepth 20000 in
theorem dL_law_1338 : decode cL_law 1338 = .ok (.iaload, 1) := by decide +kernel
set_option maxRecDepth 20000 in
theorem dL_law_1339 : decode cL_law 1339 = .ok (.aload_n 0, 1) := by decide +kernel
set_option maxRecDepth 20000 in
theorem dL_law_1340 : decode cL_law 1340 = .ok (.iload 4, 2) := by decide +kernel
set_option maxRecDepth 20000 in
theorem dL_law_1342 : decode cL_law 1342 = .ok (.iconst 4, 1) := by decide +kernel
set_option maxRecDepth 20000 in
theorem dL_law_1343 : decode cL_law 1343 = .ok (.iadd, 1) := by decide +kernel
set_option maxRecDepth 20000 in
theorem dL_law_1344 : decode cL_law 1344 = .ok (.iaload, 1) := by decide +kernel
set_option maxRecDepth 20000 in
theorem dL_law_1345 : decode cL_law 1345 = .ok (.aload_n 0, 1) := by decide +kernel
set_option maxRecDepth 20000 in
theorem dL_law_1346 : decode cL_law 1346 = .ok (.iload 4, 2) := by decide +kernel
set_option maxRecDepth 20000 in
theorem dL_law_1348 : decode cL_law 1348 = .ok (.iconst 5, 1) := by decide +kernel
set_option maxRecDepth 20000 in
theorem dL_law_1349 : decode cL_law 1349 = .ok (.iadd, 1) := by decide +kernel
set_option maxRecDepth 20000 in
theorem dL_law_1350 : decode cL_law 1350 = .ok (.iaload, 1) := by decide +kernel
set_option maxRecDepth 20000 in
theorem dL_law_1351 : decode cL_law 1351 = .ok (.invokevirtual 164, 3) := by decide +kernel
set_option maxRecDepth 20000 in
theorem dL_law_1354 : decode cL_law 1354 = .ok (.aload_n 2, 1) := by decide +kernel
set_option maxRecDepth 20000 in
theorem dL_law_1355 : decode cL_law 1355 = .ok (.aload_n 0, 1) := by decide +kernel
set_option maxRecDepth 20000 in
theorem dL_law_1356 : decode cL_law 1356 = .ok (.iload 4, 2) := by decide +kernel
set_option maxRecDepth 20000 in
theorem dL_law_1358 : decode cL_law 1358 = .ok (.iconst 1, 1) := by decide +kernel
set_option maxRecDepth 20000 in
theorem dL_law_1359 : decode cL_law 1359 = .ok (.iadd, 1) := by decide +kernel
set_option maxRecDepth 20000 in
theorem dL_law_1360 : decode cL_law 1360 = .ok (.iaload, 1) := by decide +kernel
set_option maxRecDepth 20000 in
theorem dL_law_1361 : decode cL_law 1361 = .ok (.aload_n 0, 1) := by decide +kernel
set_option maxRecDepth 20000 in
theorem dL_law_1362 : decode cL_law 1362 = .ok (.iload 4, 2) := by decide +kernel
set_option maxRecDepth 20000 in
theorem dL_law_1364 : decode cL_law 1364 = .ok (.iconst 2, 1) := by decide +kernel
set_option maxRecDepth 20000 in
theorem dL_law_1365 : decode cL_law 1365 = .ok (.iadd, 1) := by decide +kernel
set_option maxRecDepth 20000 in
theorem dL_law_1366 : decode cL_law 1366 = .ok (.iaload, 1) := by decide +kernel
set_option maxRecDepth 20000 in
theorem dL_law_1367 : decode cL_law 1367 = .ok (.aload_n 0, 1) := by decide +kernel
set_option maxRecDepth 20000 in
theorem dL_law_1368 : decode cL_law 1368 = .ok (.iload 4, 2) := by decide +kernel
set_option maxRecDepth 20000 in
theorem dL_law_1370 : decode cL_law 1370 = .ok (.iconst 3, 1) := by decide +kernel
set_option maxRecDepth 20000 in
theorem dL_law_1371 : decode cL_law 1371 = .ok (.iadd, 1) := by decide +kernel
set_option maxRecDepth 20000 in
theorem dL_law_1372 : decode cL_law 1372 = .ok (.iaload, 1) := by decide +kernel
set_option maxRecDepth 20000 in
theorem dL_law_1373 : decode cL_law 1373 = .ok (.aload_n 0, 1) := by decide +kernel
set_option maxRecDepth 20000 in
theorem dL_law_1374 : decode cL_law 1374 = .ok (.iload 4, 2) := by decide +kernel
set_option maxRecDepth 20000 in
theorem dL_law_1376 : decode cL_law 1376 = .ok (.iconst 4, 1) := by decide +kernel
set_option maxRecDepth 20000 in
theorem dL_law_1377 : decode cL_law 1377 = .ok (.iadd, 1) := by decide +kernel
set_option maxRecDepth 20000 in
theorem dL_law_1378 : decode cL_law 1378 = .ok (.iaload, 1) := by decide +kernel
set_option maxRecDepth 20000 in
theorem dL_law_1379 : decode cL_law 1379 = .ok (.aload_n 0, 1) := by decide +kernel
set_option maxRecDepth 20000 in
theorem dL_law_1380 : decode cL_law 1380 = .ok (.iload 4, 2) := by decide +kernel
set_option maxRecDepth 20000 in
theorem dL_law_1382 : decode cL_law 1382 = .ok (.iconst 5, 1) := by decide +kernel
set_option maxRecDepth 20000 in
theorem dL_law_1383 : decode cL_law 1383 = .ok (.iadd, 1) := by decide +kernel
set_option maxRecDepth 20000 in
theorem dL_law_1384 : decode cL_law 1384 = .ok (.iaload, 1) := by decide +kernel
set_option maxRecDepth 20000 in
theorem dL_law_1385 : decode cL_law 1385 = .ok (.invokevirtual 167, 3) := by decide +kernel
set_option maxRecDepth 20000 in
theorem dL_law_1388 : decode cL_law 1388 = .ok (.if_icmp .eq 241, 3) := by decide +kernel
set_option maxRecDepth 20000 in
theorem dL_law_1393 : decode cL_law 1393 = .ok (.aload_n 1, 1) := by decide +kernel
set_option maxRecDepth 20000 in
theorem dL_law_1394 : decode cL_law 1394 = .ok (.aload_n 0, 1) := by decide +kernel
set_option maxRecDepth 20000 in
theorem dL_law_1395 : decode cL_law 1395 = .ok (.iload 4, 2) := by decide +kernel
set_option maxRecDepth 20000 in
theorem dL_law_1397 : decode cL_law 1397 = .ok (.iconst 1, 1) := by decide +kernel
set_option maxRecDepth 20000 in
theorem dL_law_1398 : decode cL_law 1398 = .ok (.iadd, 1) := by decide +kernel
set_option maxRecDepth 20000 in
theorem dL_law_1399 : decode cL_law 1399 = .ok (.iaload, 1) := by decide +kernel
set_option maxRecDepth 20000 in
theorem dL_law_1400 : decode cL_law 1400 = .ok (.aload_n 0, 1) := by decide +kernel
set_option maxRecDepth 20000 in
theorem dL_law_1401 : decode cL_law 1401 = .ok (.iload 4, 2) := by decide +kernel
set_option maxRecDepth 20000 in
theorem dL_law_1403 : decode cL_law 1403 = .ok (.iconst 2, 1) := by decide +kernel
set_option maxRecDepth 20000 in
theorem dL_law_1404 : decode cL_law 1404 = .ok (.iadd, 1) := by decide +kernel
set_option maxRecDepth 20000 in
theorem dL_law_1405 : decode cL_law 1405 = .ok (.iaload, 1) := by decide +kernel
set_option maxRecDepth 20000 in
theorem dL_law_1406 : decode cL_law 1406 = .ok (.aload_n 0, 1) := by decide +kernel
set_option maxRecDepth 20000 in
theorem dL_law_1407 : decode cL_law 1407 = .ok (.iload 4, 2) := by decide +kernel
set_option maxRecDepth 20000 in
theorem dL_law_1409 : decode cL_law 1409 = .ok (.iconst 3, 1) := by decide +kernel
set_option maxRecDepth 20000 in
theorem dL_law_1410 : decode cL_law 1410 = .ok (.iadd, 1) := by decide +kernel
set_option maxRecDepth 20000 in
theorem dL_law_1411 : decode cL_law 1411 = .ok (.iaload, 1) := by decide +kernel
set_option maxRecDepth 20000 in
theorem dL_law_1412 : decode cL_law 1412 = .ok (.invokevirtual 168, 3) := by decide +kernel
set_option maxRecDepth 20000 in
theorem dL_law_1415 : decode cL_law 1415 = .ok (.aload_n 2, 1) := by decide +kernel
set_option maxRecDepth 20000 in
theorem dL_law_1416 : decode cL_law 1416 = .ok (.aload_n 0, 1) := by decide +kernel
set_option maxRecDepth 20000 in
theorem dL_law_1417 : decode cL_law 1417 = .ok (.iload 4, 2) := by decide +kernel
set_option maxRecDepth 20000 in
theorem dL_law_1419 : decode cL_law 1419 = .ok (.iconst 1, 1) := by decide +kernel
set_option maxRecDepth 20000 in
theorem dL_law_1420 : decode cL_law 1420 = .ok (.iadd, 1) := by decide +kernel
set_option maxRecDepth 20000 in
theorem dL_law_1421 : decode cL_law 1421 = .ok (.iaload, 1) := by decide +kernel
set_option maxRecDepth 20000 in
theorem dL_law_1422 : decode cL_law 1422 = .ok (.aload_n 0, 1) := by decide +kernel
set_option maxRecDepth 20000 in
theorem dL_law_1423 : decode cL_law 1423 = .ok (.iload 4, 2) := by decide +kernel
set_option maxRecDepth 20000 in
theorem dL_law_1425 : decode cL_law 1425 = .ok (.iconst 2, 1) := by decide +kernel
set_option maxRecDepth 20000 in
theorem dL_law_1426 : decode cL_law 1426 = .ok (.iadd, 1) := by decide +kernel
set_option maxRecDepth 20000 in
theorem dL_law_1427 : decode cL_law 1427 = .ok (.iaload, 1) := by decide +kernel
set_option maxRecDepth 20000 in
theorem dL_law_1428 : decode cL_law 1428 = .ok (.aload_n 0, 1) := by decide +kernel
set_option maxRecDepth 20000 in
theorem dL_law_1429 : decode cL_law 1429 = .ok (.iload 4, 2) := by decide +kernel
set_option maxRecDepth 20000 in
theorem dL_law_1431 : decode cL_law 1431 = .ok (.iconst 3, 1) := by decide +kernel
set_option maxRecDepth 20000 in
theorem dL_law_1432 : decode cL_law 1432 = .ok (.iadd, 1) := by decide +kernel
set_option maxRecDepth 20000 in
theorem dL_law_1433 : decode cL_law 1433 = .ok (.iaload, 1) := by decide +kernel
set_option maxRecDepth 20000 in
theorem dL_law_1434 : decode cL_law 1434 = .ok (.invokevirtual 172, 3) := by decide +kernel
set_option maxRecDepth 20000 in
theorem dL_law_1437 : decode cL_law 1437 = .ok (.if_icmp .eq 192, 3) := by decide +kernel
set_option maxRecDepth 20000 in
theorem dL_law_1442 : decode cL_law 1442 = .ok (.aload_n 1, 1) := by decide +kernel
set_option maxRecDepth 20000 in
theorem dL_law_1443 : decode cL_law 1443 = .ok (.aload_n 0, 1) := by decide +kernel
set_option maxRecDepth 20000 in
theorem dL_law_1444 : decode cL_law 1444 = .ok (.iload 4, 2) := by decide +kernel
set_option maxRecDepth 20000 in
theorem dL_law_1446 : decode cL_law 1446 = .ok (.iconst 1, 1) := by decide +kernel
set_option maxRecDepth 20000 in
theorem dL_law_1447 : decode cL_law 1447 = .ok (.iadd, 1) := by decide +kernel
set_option maxRecDepth 20000 in
theorem dL_law_1448 : decode cL_law 1448 = .ok (.iaload, 1) := by decide +kernel
set_option maxRecDepth 20000 in
theorem dL_law_1449 : decode cL_law 1449 = .ok (.aload_n 0, 1) := by decide +kernel
set_option maxRecDepth 20000 in
theorem dL_law_1450 : decode cL_law 1450 = .ok (.iload 4, 2) := by decide +kernel
set_option maxRecDepth 20000 in
theorem dL_law_1452 : decode cL_law 1452 = .ok (.iconst 2, 1) := by decide +kernel
set_option maxRecDepth 20000 in
theorem dL_law_1453 : decode cL_law 1453 = .ok (.iadd, 1) := by decide +kernel
set_option maxRecDepth 20000 in
theorem dL_law_1454 : decode cL_law 1454 = .ok (.iaload, 1) := by decide +kernel
set_option maxRecDepth 20000 in
theorem dL_law_1455 : decode cL_law 1455 = .ok (.invokevirtual 173, 3) := by decide +kernel
set_option maxRecDepth 20000 in
theorem dL_law_1458 : decode cL_law 1458 = .ok (.aload_n 2, 1) := by decide +kernel
set_option maxRecDepth 20000 in
theorem dL_law_1459 : decode cL_law 1459 = .ok (.aload_n 0, 1) := by decide +kernel
set_option maxRecDepth 20000 in
theorem dL_law_1460 : decode cL_law 1460 = .ok (.iload 4, 2) := by decide +kernel
set_option maxRecDepth 20000 in
theorem dL_law_1462 : decode cL_law 1462 = .ok (.iconst 1, 1) := by decide +kernel
set_option maxRecDepth 20000 in
theorem dL_law_1463 : decode cL_law 1463 = .ok (.iadd, 1) := by decide +kernel
set_option maxRecDepth 20000 in
theorem dL_law_1464 : decode cL_law 1464 = .ok (.iaload, 1) := by decide +kernel
set_option maxRecDepth 20000 in
theorem dL_law_1465 : decode cL_law 1465 = .ok (.aload_n 0, 1) := by decide +kernel
set_option maxRecDepth 20000 in
theorem dL_law_1466 : decode cL_law 1466 = .ok (.iload 4, 2) := by decide +kernel
set_option maxRecDepth 20000 in
theorem dL_law_1468 : decode cL_law 1468 = .ok (.iconst 2, 1) := by decide +kernel
set_option maxRecDepth 20000 in
theorem dL_law_1469 : decode cL_law 1469 = .ok (.iadd, 1) := by decide +kernel
set_option maxRecDepth 20000 in
theorem dL_law_1470 : decode cL_law 1470 = .ok (.iaload, 1) := by decide +kernel
set_option maxRecDepth 20000 in
theorem dL_law_1471 : decode cL_law 1471 = .ok (.invokevirtual 176, 3) := by decide +kernel
set_option maxRecDepth 20000 in
theorem dL_law_1474 : decode cL_law 1474 = .ok (.if_icmp .eq 155, 3) := by decide +kernel
set_option maxRecDepth 20000 in
theorem dL_law_1479 : decode cL_law 1479 = .ok (.aload_n 1, 1) := by decide +kernel
set_option maxRecDepth 20000 in
theorem dL_law_1480 : decode cL_law 1480 = .ok (.aload_n 0, 1) := by decide +kernel
set_option maxRecDepth 20000 in
theorem dL_law_1481 : decode cL_law 1481 = .ok (.iload 4, 2) := by decide +kernel
set_option maxRecDepth 20000 in
theorem dL_law_1483 : decode cL_law 1483 = .ok (.iconst 1, 1) := by decide +kernel
set_option maxRecDepth 20000 in
theorem dL_law_1484 : decode cL_law 1484 = .ok (.iadd, 1) := by decide +kernel
set_option maxRecDepth 20000 in
theorem dL_law_1485 : decode cL_law 1485 = .ok (.iaload, 1) := by decide +kernel
set_option maxRecDepth 20000 in
theorem dL_law_1486 : decode cL_law 1486 = .ok (.aload_n 0, 1) := by decide +kernel
set_option maxRecDepth 20000 in
theorem dL_law_1487 : decode cL_law 1487 = .ok (.iload 4, 2) := by decide +kernel
set_option maxRecDepth 20000 in
theorem dL_law_1489 : decode cL_law 1489 = .ok (.iconst 2, 1) := by decide +kernel
set_option maxRecDepth 20000 in
theorem dL_law_1490 : decode cL_law 1490 = .ok (.iadd, 1) := by decide +kernel
set_option maxRecDepth 20000 in
theorem dL_law_1491 : decode cL_law 1491 = .ok (.iaload, 1) := by decide +kernel
set_option maxRecDepth 20000 in
theorem dL_law_1492 : decode cL_law 1492 = .ok (.invokevirtual 177, 3) := by decide +kernel
set_option maxRecDepth 20000 in
theorem dL_law_1495 : decode cL_law 1495 = .ok (.aload_n 2, 1) := by decide +kernel
set_option maxRecDepth 20000 in
theorem dL_law_1496 : decode cL_law 1496 = .ok (.aload_n 0, 1) := by decide +kernel
set_option maxRecDepth 20000 in
theorem dL_law_1497 : decode cL_law 1497 = .ok (.iload 4, 2) := by decide +kernel
set_option maxRecDepth 20000 in
theorem dL_law_1499 : decode cL_law 1499 = .ok (.iconst 1, 1) := by decide +kernel
set_option maxRecDepth 20000 in
theorem dL_law_1500 : decode cL_law 1500 = .ok (.iadd, 1) := by decide +kernel
set_option maxRecDepth 20000 in
theorem dL_law_1501 : decode cL_law 1501 = .ok (.iaload, 1) := by decide +kernel
set_option maxRecDepth 20000 in
theorem dL_law_1502 : decode cL_law 1502 = .ok (.aload_n 0, 1) := by decide +kernel
set_option maxRecDepth 20000 in
theorem dL_law_1503 : decode cL_law 1503 = .ok (.iload 4, 2) := by decide +kernel
set_option maxRecDepth 20000 in
theorem dL_law_1505 : decode cL_law 1505 = .ok (.iconst 2, 1) := by decide +kernel
set_option maxRecDepth 20000 in
theorem dL_law_1506 : decode cL_law 1506 = .ok (.iadd, 1) := by decide +kernel
set_option maxRecDepth 20000 in
theorem dL_law_1507 : decode cL_law 1507 = .ok (.iaload, 1) := by decide +kernel
set_option maxRecDepth 20000 in
theorem dL_law_1508 : decode cL_law 1508 = .ok (.invokevirtual 180, 3) := by decide +kernel
set_option maxRecDepth 20000 in
theorem dL_law_1511 : decode cL_law 1511 = .ok (.if_icmp .eq 118, 3) := by decide +kernel
set_option maxRecDepth 20000 in
theorem dL_law_1516 : decode cL_law 1516 = .ok (.aload_n 1, 1) := by decide +kernel
set_option maxRecDepth 20000 in
theorem dL_law_1517 : decode cL_law 1517 = .ok (.aload_n 0, 1) := by decide +kernel
set_option maxRecDepth 20000 in
theorem dL_law_1518 : decode cL_law 1518 = .ok (.iload 4, 2) := by decide +kernel
set_option maxRecDepth 20000 in
theorem dL_law_1520 : decode cL_law 1520 = .ok (.iconst 1, 1) := by decide +kernel
set_option maxRecDepth 20000 in
theorem dL_law_1521 : decode cL_law 1521 = .ok (.iadd, 1) := by decide +kernel
set_option maxRecDepth 20000 in
theorem dL_law_1522 : decode cL_law 1522 = .ok (.iaload, 1) := by decide +kernel
set_option maxRecDepth 20000 in
theorem dL_law_1523 : decode cL_law 1523 = .ok (.invokevirtual 181, 3) := by decide +kernel
set_option maxRecDepth 20000 in
theorem dL_law_1526 : decode cL_law 1526 = .ok (.aload_n 2, 1) := by decide +kernel
set_option maxRecDepth 20000 in
theorem dL_law_1527 : decode cL_law 1527 = .ok (.aload_n 0, 1) := by decide +kernel
set_option maxRecDepth 20000 in
theorem dL_law_1528 : decode cL_law 1528 = .ok (.iload 4, 2) := by decide +kernel
set_option maxRecDepth 20000 in
theorem dL_law_1530 : decode cL_law 1530 = .ok (.iconst 1, 1) := by decide +kernel
set_option maxRecDepth 20000 in
theorem dL_law_1531 : decode cL_law 1531 = .ok (.iadd, 1) := by decide +kernel
set_option maxRecDepth 20000 in
theorem dL_law_1532 : decode cL_law 1532 = .ok (.iaload, 1) := by decide +kernel
set_option maxRecDepth 20000 in
theorem dL_law_1533 : decode cL_law 1533 = .ok (.invokevirtual 184, 3) := by decide +kernel
set_option maxRecDepth 20000 in
theorem dL_law_1536 : decode cL_law 1536 = .ok (.if_icmp .eq 93, 3) := by decide +kernel
set_option maxRecDepth 20000 in
theorem dL_law_1541 : decode cL_law 1541 = .ok (.aload_n 1, 1) := by decide +kernel
set_option maxRecDepth 20000 in
theorem dL_law_1542 : decode cL_law 1542 = .ok (.aload_n 0, 1) := by decide +kernel
set_option maxRecDepth 20000 in
theorem dL_law_1543 : decode cL_law 1543 = .ok (.iload 4, 2) := by decide +kernel
set_option maxRecDepth 20000 in
theorem dL_law_1545 : decode cL_law 1545 = .ok (.iconst 1, 1) := by decide +kernel
set_option maxRecDepth 20000 in
theorem dL_law_1546 : decode cL_law 1546 = .ok (.iadd, 1) := by decide +kernel
set_option maxRecDepth 20000 in
theorem dL_law_1547 : decode cL_law 1547 = .ok (.iaload, 1) := by decide +kernel
set_option maxRecDepth 20000 in
theorem dL_law_1548 : decode cL_law 1548 = .ok (.aload_n 0, 1) := by decide +kernel
set_option maxRecDepth 20000 in
theorem dL_law_1549 : decode cL_law 1549 = .ok (.iload 4, 2) := by decide +kernel
set_option maxRecDepth 20000 in
theorem dL_law_1551 : decode cL_law 1551 = .ok (.iconst 2, 1) := by decide +kernel
set_option maxRecDepth 20000 in
theorem dL_law_1552 : decode cL_law 1552 = .ok (.iadd, 1) := by decide +kernel
set_option maxRecDepth 20000 in
theorem dL_law_1553 : decode cL_law 1553 = .ok (.iaload, 1) := by decide +kernel
set_option maxRecDepth 20000 in
theorem dL_law_1554 : decode cL_law 1554 = .ok (.invokevirtual 185, 3) := by decide +kernel
set_option maxRecDepth 20000 in
theorem dL_law_1557 : decode cL_law 1557 = .ok (.aload_n 2, 1) := by decide +kernel
set_option maxRecDepth 20000 in
theorem dL_law_1558 : decode cL_law 1558 = .ok (.aload_n 0, 1) := by decide +kernel
set_option maxRecDepth 20000 in
theorem dL_law_1559 : decode cL_law 1559 = .ok (.iload 4, 2) := by decide +kernel
set_option maxRecDepth 20000 in
theorem dL_law_1561 : decode cL_law 1561 = .ok (.iconst 1, 1) := by decide +kernel
set_option maxRecDepth 20000 in
theorem dL_law_1562 : decode cL_law 1562 = .ok (.iadd, 1) := by decide +kernel
set_option maxRecDepth 20000 in
theorem dL_law_1563 : decode cL_law 1563 = .ok (.iaload, 1) := by decide +kernel
set_option maxRecDepth 20000 in
theorem dL_law_1564 : decode cL_law 1564 = .ok (.aload_n 0, 1) := by decide +kernel
set_option maxRecDepth 20000 in
theorem dL_law_1565 : decode cL_law 1565 = .ok (.iload 4, 2) := by decide +kernel
set_option maxRecDepth 20000 in
theorem dL_law_1567 : decode cL_law 1567 = .ok (.iconst 2, 1) := by decide +kernel
set_option maxRecDepth 20000 in
theorem dL_law_1568 : decode cL_law 1568 = .ok (.iadd, 1) := by decide +kernel
set_option maxRecDepth 20000 in
theorem dL_law_1569 : decode cL_law 1569 = .ok (.iaload, 1) := by decide +kernel
set_option maxRecDepth 20000 in
theorem dL_law_1570 : decode cL_law 1570 = .ok (.invokevirtual 188, 3) := by decide +kernel
set_option maxRecDepth 20000 in
theorem dL_law_1573 : decode cL_law 1573 = .ok (.if_icmp .eq 56, 3) := by decide +kernel
set_option maxRecDepth 20000 in
theorem dL_law_1578 : decode cL_law 1578 = .ok (.aload_n 1, 1) := by decide +kernel
set_option maxRecDepth 20000 in
theorem dL_law_1579 : decode cL_law 1579 = .ok (.invokevirtual 189, 3) := by decide +kernel
set_option maxRecDepth 20000 in
theorem dL_law_1582 : decode cL_law 1582 = .ok (.aload_n 2, 1) := by decide +kernel
set_option maxRecDepth 20000 in
theorem dL_law_1583 : decode cL_law 1583 = .ok (.invokevirtual 192, 3) := by decide +kernel
set_option maxRecDepth 20000 in
theorem dL_law_1586 : decode cL_law 1586 = .ok (.if_icmp .eq 43, 3) := by decide +kernel
set_option maxRecDepth 20000 in
theorem dL_law_1591 : decode cL_law 1591 = .ok (.aload_n 1, 1) := by decide +kernel
set_option maxRecDepth 20000 in
theorem dL_law_1592 : decode cL_law 1592 = .ok (.invokevirtual 193, 3) := by decide +kernel
set_option maxRecDepth 20000 in
theorem dL_law_1595 : decode cL_law 1595 = .ok (.aload_n 2, 1) := by decide +kernel
set_option maxRecDepth 20000 in
theorem dL_law_1596 : decode cL_law 1596 = .ok (.invokevirtual 196, 3) := by decide +kernel
set_option maxRecDepth 20000 in
theorem dL_law_1599 : decode cL_law 1599 = .ok (.if_icmp .eq 30, 3) := by decide +kernel
set_option maxRecDepth 20000 in
theorem dL_law_1604 : decode cL_law 1604 = .ok (.aload_n 1, 1) := by decide +kernel
set_option maxRecDepth 20000 in
theorem dL_law_1605 : decode cL_law 1605 = .ok (.aload_n 0, 1) := by decide +kernel
set_option maxRecDepth 20000 in
theorem dL_law_1606 : decode cL_law 1606 = .ok (.iload 4, 2) := by decide +kernel
set_option maxRecDepth 20000 in
theorem dL_law_1608 : decode cL_law 1608 = .ok (.iconst 1, 1) := by decide +kernel
set_option maxRecDepth 20000 in
theorem dL_law_1609 : decode cL_law 1609 = .ok (.iadd, 1) := by decide +kernel
set_option maxRecDepth 20000 in
theorem dL_law_1610 : decode cL_law 1610 = .ok (.iaload, 1) := by decide +kernel
set_option maxRecDepth 20000 in
theorem dL_law_1611 : decode cL_law 1611 = .ok (.invokevirtual 197, 3) := by decide +kernel
set_option maxRecDepth 20000 in
theorem dL_law_1614 : decode cL_law 1614 = .ok (.aload_n 2, 1) := by decide +kernel
set_option maxRecDepth 20000 in
theorem dL_law_1615 : decode cL_law 1615 = .ok (.aload_n 0, 1) := by decide +kernel
set_option maxRecDepth 20000 in
theorem dL_law_1616 : decode cL_law 1616 = .ok (.iload 4, 2) := by decide +kernel
set_option maxRecDepth 20000 in
theorem dL_law_1618 : decode cL_law 1618 = .ok (.iconst 1, 1) := by decide +kernel
set_option maxRecDepth 20000 in
theorem dL_law_1619 : decode cL_law 1619 = .ok (.iadd, 1) := by decide +kernel
set_option maxRecDepth 20000 in
theorem dL_law_1620 : decode cL_law 1620 = .ok (.iaload, 1) := by decide +kernel
set_option maxRecDepth 20000 in
theorem dL_law_1621 : decode cL_law 1621 = .ok (.invokevirtual 200, 3) := by decide +kernel
set_option maxRecDepth 20000 in
theorem dL_law_1624 : decode cL_law 1624 = .ok (.if_icmp .eq 5, 3) := by decide +kernel
set_option maxHeartbeats 4000000 in
set_option maxRecDepth 100000 in
theorem lc_24 {p : Program} {l : Launch} {e : Env} {s : State} {m : MethodId} {below : List Frame} {meth : Method} {c : Code} {b : Nat} {xs : Nat → Int32} {H : Heap} {locs : List Loc} {ls : Array Slot} {dC : Nat → ClassId} {dI : Nat → Nat → Nat} {sk sv : Nat → Nat} {s2 tz s3 : Nat} (q r : Nat → Nat) (kB : ClassId) (kR : ClassId) (kT : ClassId) (kU : ClassId) (kL : ClassId) (kN : ClassId) (fB fT : Nat → Int32) (qo : Nat) (hlt : l.stackTraces = false) (C0 : lw_At p s m meth c b 6 xs) (hG : gxP s) (hE : exP sk sv s2 tz (fun q : Nat => s.heap.size ≤ q) s s.heap) (hT : tP s3 (fun q : Nat => s.heap.size ≤ q) s s.heap) (hK : va_K (dC, dI) vwCl [(kB, .int), (kR, .int), (kT, .byte), (kU, .int), (kL, .int), (kN, .int)] s) (hP : va_P (dC, dI) vwCl [((q 15), .inr (11, xF q 0 1)), ((q 0), .inr (8, [.ref (q 16), .int 0, .int 0, .int 0])), ((q 16), .inl (kB, 240, .inl fB)), ((q 1), .inr (5, [.int 0, .int 0, .int 0, .int 0, .ref (q 20), .ref (q 21), .ref (q 22), .ref (q 23)])), ((q 2), .inr (5, [.int 0, .int 0, .int 0, .int 0, .ref (q 24), .ref (q 25), .ref (q 26), .ref (q 27)])), ((q 24), .inl (kR, 2, .inl (fun _ => 0))), ((q 3), .inr (2, [.ref (q 0), .ref (q 28), .int 0])), ((q 4), .inr (3, [.ref (q 30), .ref (q 31), .ref (q 32), .int 0, .int 0, .int (-1), .int 0, .int 0, .int 0, .int 0, .int 0, .int 0])), ((q 5), .inr (9, [.ref (q 33), .ref (q 34), .ref (q 35), .int 0, .int 0])), ((q 8), .inr (7, [.ref (q 36), .ref (q 37), .ref (q 38), .ref (q 39), .int 0, .int 0])), ((q 9), .inr (6, [.int 0, .int 0, .int 0, .ref (q 40), .ref (q 41), .ref (q 42), .ref (q 43)])), ((q 11), .inr (0, [.ref (q 44), .int 0, .int 0])), ((r 100), .inr (12, mF r 0 0 0 0 0 0 0 0 0 0 0 0 0 (-1) 1)), ((r 1), .inl (kT, 240, .inl fT)), ((r 18), .inl (kU, 2, .inl (fun _ => 0))), ((r 24), .inl (kL, 5, .inl (fun _ => 0))), ((r 32), .inl (kN, 208, .inl (fun _ => 0)))] H) (hD : va_D (fun q : Nat => s.heap.size ≤ q) [((q 15), .inr (11, xF q 0 1)), ((q 0), .inr (8, [.ref (q 16), .int 0, .int 0, .int 0])), ((q 16), .inl (kB, 240, .inl fB)), ((q 1), .inr (5, [.int 0, .int 0, .int 0, .int 0, .ref (q 20), .ref (q 21), .ref (q 22), .ref (q 23)])), ((q 2), .inr (5, [.int 0, .int 0, .int 0, .int 0, .ref (q 24), .ref (q 25), .ref (q 26), .ref (q 27)])), ((q 24), .inl (kR, 2, .inl (fun _ => 0))), ((q 3), .inr (2, [.ref (q 0), .ref (q 28), .int 0])), ((q 4), .inr (3, [.ref (q 30), .ref (q 31), .ref (q 32), .int 0, .int 0, .int (-1), .int 0, .int 0, .int 0, .int 0, .int 0, .int 0])), ((q 5), .inr (9, [.ref (q 33), .ref (q 34), .ref (q 35), .int 0, .int 0])), ((q 8), .inr (7, [.ref (q 36), .ref (q 37), .ref (q 38), .ref (q 39), .int 0, .int 0])), ((q 9), .inr (6, [.int 0, .int 0, .int 0, .ref (q 40), .ref (q 41), .ref (q 42), .ref (q 43)])), ((q 11), .inr (0, [.ref (q 44), .int 0, .int 0])), ((r 100), .inr (12, mF r 0 0 0 0 0 0 0 0 0 0 0 0 0 (-1) 1)), ((r 1), .inl (kT, 240, .inl fT)), ((r 18), .inl (kU, 2, .inl (fun _ => 0))), ((r 24), .inl (kL, 5, .inl (fun _ => 0))), ((r 32), .inl (kN, 208, .inl (fun _ => 0)))]) (hS : va_S (fun q : Nat => s.heap.size ≤ q) s.heap H locs) (hl : lv_has ls 7 [(0, .ref b), (1, .ref (q 15)), (2, .ref (r 100)), (3, .ref qo), (4, .int 0)]) : W p l e room_1 s m #[Value.ref b] below meth c H locs 335 33214 (lw_Z below #[Value.ref b] s) (F0 m 1043 ls []) := by
  obtain ⟨hx, hb, hr, hml, hown0, hts, hX, hbl, hlocks, hgv⟩ := id C0
  have hown : s.vm.findClass RL = some m.cls := hown0
  have hA : ∀ q : Nat, s.heap.size ≤ q → (fun q : Nat => s.heap.size ≤ q) q := fun _ h => h
  have hbA : ¬ (fun q : Nat => s.heap.size ≤ q) b := Nat.not_le.mpr hbl
  have hiX11 : ∀ w ∈ u_ws RX11 TX11 17, w ∈ lw_tbl := in_X11
  have hiX12 : ∀ w ∈ u_ws RX12 TX12 54, w ∈ lw_tbl := in_X12
  refine lv_aload_n hx hb dL_law_1043 rfl (lv_at hl 1 rfl) ?_
  refine lv_aload_n hx hb dL_law_1044 rfl (lv_at hl 0 rfl) ?_
  refine lv_iload hx hb dL_law_1045 (lv_at hl 4 rfl) ?_
  refine lv_iconst (v := 1) hx hb dL_law_1047 (by decide) ?_
  refine lv_iadd hx hb dL_law_1048 ?_
  refine lv_topi (fun v_1 e_1 => ?_)
  obtain rfl : v_1 = 1 := by rw [e_1]; decide
  refine va_sld hx hb hX hbl hbA hS (i := 1) (vp_in_nI (n := 1) (by decide) (by decide)) dL_law_1049 ?_
  refine lv_topi (fun v_2 e_2 => ?_)
  obtain rfl : v_2 = xs 1 := by rw [e_2]; exact congrArg xs (by decide)
  refine lv_aload_n hx hb dL_law_1050 rfl (lv_at hl 0 rfl) ?_
  refine lv_iload hx hb dL_law_1051 (lv_at hl 4 rfl) ?_
  refine lv_iconst (v := 2) hx hb dL_law_1053 (by decide) ?_
  refine lv_iadd hx hb dL_law_1054 ?_
  refine lv_topi (fun v_3 e_3 => ?_)
  obtain rfl : v_3 = 2 := by rw [e_3]; decide
  refine va_sld hx hb hX hbl hbA hS (i := 2) (vp_in_nI (n := 2) (by decide) (by decide)) dL_law_1055 ?_
  refine lv_topi (fun v_4 e_4 => ?_)
  obtain rfl : v_4 = xs 2 := by rw [e_4]; exact congrArg xs (by decide)
  have hPc := hP.sub (ws' := [((q 15), .inr (11, xF q 0 1)), ((q 1), .inr (5, [.int 0, .int 0, .int 0, .int 0, .ref (q 20), .ref (q 21), .ref (q 22), .ref (q 23)]))]) [0, 3] rfl
  have hDc := hD.sub (ws' := [((q 15), .inr (11, xF q 0 1)), ((q 1), .inr (5, [.int 0, .int 0, .int 0, .int 0, .ref (q 20), .ref (q 21), .ref (q 22), .ref (q 23)]))]) [0, 3] (by decide) rfl
  have hKc := hK.sub (tys' := []) [] rfl
  have hFc := va_free (wc := [((q 15), .inr (11, xF q 0 1)), ((q 1), .inr (5, [.int 0, .int 0, .int 0, .int 0, .ref (q 20), .ref (q 21), .ref (q 22), .ref (q 23)]))]) hD hS hA [0, 3] rfl
  refine va_calli (va_runV (As := [.int (xs 1), .int (xs 2)]) (rest := []) ⟨hx, hb, hml, hown, hts⟩ (f_X11_worn l dC dI H.size q ((xs 1)) ((xs 2))) (cwV 2 hts g_f_L_law_f_X11_worn rfl rfl rfl (by decide +kernel) ⟨Nat.le_of_ble_eq_true rfl, Nat.le_of_ble_eq_true rfl⟩) ⟨cW_blind, va_recv hKc hPc (ci := 11) (q0 := 0) rfl rfl, fun U hU hW => ⟨rfl, cW_use hU hW hPc hKc hDc hG⟩⟩ rfl rfl hl.1 rfl (lv_room (Nat.le_of_ble_eq_true rfl)) dL_law_1056 ⟨Nat.le_of_ble_eq_true rfl, Nat.le_of_ble_eq_true rfl⟩) hS (fun q _ h => hFc q h) hFc (fun r_5 u t H1 locs ht hvm hw hB hz1 hk1 hS => ?_)
  obtain ⟨hP, hD⟩ := va_join (wr := [((q 0), .inr (8, [.ref (q 16), .int 0, .int 0, .int 0])), ((q 16), .inl (kB, 240, .inl fB)), ((q 2), .inr (5, [.int 0, .int 0, .int 0, .int 0, .ref (q 24), .ref (q 25), .ref (q 26), .ref (q 27)])), ((q 24), .inl (kR, 2, .inl (fun _ => 0))), ((q 3), .inr (2, [.ref (q 0), .ref (q 28), .int 0])), ((q 4), .inr (3, [.ref (q 30), .ref (q 31), .ref (q 32), .int 0, .int 0, .int (-1), .int 0, .int 0, .int 0, .int 0, .int 0, .int 0])), ((q 5), .inr (9, [.ref (q 33), .ref (q 34), .ref (q 35), .int 0, .int 0])), ((q 8), .inr (7, [.ref (q 36), .ref (q 37), .ref (q 38), .ref (q 39), .int 0, .int 0])), ((q 9), .inr (6, [.int 0, .int 0, .int 0, .ref (q 40), .ref (q 41), .ref (q 42), .ref (q 43)])), ((q 11), .inr (0, [.ref (q 44), .int 0, .int 0])), ((r 100), .inr (12, mF r 0 0 0 0 0 0 0 0 0 0 0 0 0 (-1) 1)), ((r 1), .inl (kT, 240, .inl fT)), ((r 18), .inl (kU, 2, .inl (fun _ => 0))), ((r 24), .inl (kL, 5, .inl (fun _ => 0))), ((r 32), .inl (kN, 208, .inl (fun _ => 0)))]) (w1 := []) hP hD [0, 3] [1, 2, 4, 5, 6, 7, 8, 9, 10, 11, 12, 13, 14, 15, 16] rfl rfl (by decide) (by decide) hk1 hFc (va_P_nil H1) va_D_nil
  generalize H1 = H at hP hS ⊢
  have hP : va_P (dC, dI) vwCl [((q 0), .inr (8, [.ref (q 16), .int 0, .int 0, .int 0])), ((q 16), .inl (kB, 240, .inl fB)), ((q 2), .inr (5, [.int 0, .int 0, .int 0, .int 0, .ref (q 24), .ref (q 25), .ref (q 26), .ref (q 27)])), ((q 24), .inl (kR, 2, .inl (fun _ => 0))), ((q 3), .inr (2, [.ref (q 0), .ref (q 28), .int 0])), ((q 4), .inr (3, [.ref (q 30), .ref (q 31), .ref (q 32), .int 0, .int 0, .int (-1), .int 0, .int 0, .int 0, .int 0, .int 0, .int 0])), ((q 5), .inr (9, [.ref (q 33), .ref (q 34), .ref (q 35), .int 0, .int 0])), ((q 8), .inr (7, [.ref (q 36), .ref (q 37), .ref (q 38), .ref (q 39), .int 0, .int 0])), ((q 9), .inr (6, [.int 0, .int 0, .int 0, .ref (q 40), .ref (q 41), .ref (q 42), .ref (q 43)])), ((q 11), .inr (0, [.ref (q 44), .int 0, .int 0])), ((r 100), .inr (12, mF r 0 0 0 0 0 0 0 0 0 0 0 0 0 (-1) 1)), ((r 1), .inl (kT, 240, .inl fT)), ((r 18), .inl (kU, 2, .inl (fun _ => 0))), ((r 24), .inl (kL, 5, .inl (fun _ => 0))), ((r 32), .inl (kN, 208, .inl (fun _ => 0)))] H := hP
  have hD : va_D (fun q : Nat => s.heap.size ≤ q) [((q 0), .inr (8, [.ref (q 16), .int 0, .int 0, .int 0])), ((q 16), .inl (kB, 240, .inl fB)), ((q 2), .inr (5, [.int 0, .int 0, .int 0, .int 0, .ref (q 24), .ref (q 25), .ref (q 26), .ref (q 27)])), ((q 24), .inl (kR, 2, .inl (fun _ => 0))), ((q 3), .inr (2, [.ref (q 0), .ref (q 28), .int 0])), ((q 4), .inr (3, [.ref (q 30), .ref (q 31), .ref (q 32), .int 0, .int 0, .int (-1), .int 0, .int 0, .int 0, .int 0, .int 0, .int 0])), ((q 5), .inr (9, [.ref (q 33), .ref (q 34), .ref (q 35), .int 0, .int 0])), ((q 8), .inr (7, [.ref (q 36), .ref (q 37), .ref (q 38), .ref (q 39), .int 0, .int 0])), ((q 9), .inr (6, [.int 0, .int 0, .int 0, .ref (q 40), .ref (q 41), .ref (q 42), .ref (q 43)])), ((q 11), .inr (0, [.ref (q 44), .int 0, .int 0])), ((r 100), .inr (12, mF r 0 0 0 0 0 0 0 0 0 0 0 0 0 (-1) 1)), ((r 1), .inl (kT, 240, .inl fT)), ((r 18), .inl (kU, 2, .inl (fun _ => 0))), ((r 24), .inl (kL, 5, .inl (fun _ => 0))), ((r 32), .inl (kN, 208, .inl (fun _ => 0)))] := hD
  refine W.widen (k := 335) (n := 33214) (Nat.le_of_ble_eq_true rfl) (Nat.le_of_ble_eq_true rfl) ?_
  obtain rfl : r_5 = (-1) := hw
  refine lv_aload_n hx hb dL_law_1059 rfl (lv_at hl 2 rfl) ?_
  refine lv_aload_n hx hb dL_law_1060 rfl (lv_at hl 0 rfl) ?_
  refine lv_iload hx hb dL_law_1061 (lv_at hl 4 rfl) ?_
  refine lv_iconst (v := 1) hx hb dL_law_1063 (by decide) ?_
  refine lv_iadd hx hb dL_law_1064 ?_
  refine lv_topi (fun v_6 e_6 => ?_)
  obtain rfl : v_6 = 1 := by rw [e_6]; decide
  refine va_sld hx hb hX hbl hbA hS (i := 1) (vp_in_nI (n := 1) (by decide) (by decide)) dL_law_1065 ?_
  refine lv_topi (fun v_7 e_7 => ?_)
  obtain rfl : v_7 = xs 1 := by rw [e_7]; exact congrArg xs (by decide)
  refine lv_aload_n hx hb dL_law_1066 rfl (lv_at hl 0 rfl) ?_
  refine lv_iload hx hb dL_law_1067 (lv_at hl 4 rfl) ?_
  refine lv_iconst (v := 2) hx hb dL_law_1069 (by decide) ?_
  refine lv_iadd hx hb dL_law_1070 ?_
  refine lv_topi (fun v_8 e_8 => ?_)
  obtain rfl : v_8 = 2 := by rw [e_8]; decide
  refine va_sld hx hb hX hbl hbA hS (i := 2) (vp_in_nI (n := 2) (by decide) (by decide)) dL_law_1071 ?_
  refine lv_topi (fun v_9 e_9 => ?_)
  obtain rfl : v_9 = xs 2 := by rw [e_9]; exact congrArg xs (by decide)
  have hPc := hP.sub (ws' := [((r 100), .inr (12, mF r 0 0 0 0 0 0 0 0 0 0 0 0 0 (-1) 1))]) [10] rfl
  have hDc := hD.sub (ws' := [((r 100), .inr (12, mF r 0 0 0 0 0 0 0 0 0 0 0 0 0 (-1) 1))]) [10] (by decide) rfl
  have hKc := hK.sub (tys' := []) [] rfl
  have hFc := va_free (wc := [((r 100), .inr (12, mF r 0 0 0 0 0 0 0 0 0 0 0 0 0 (-1) 1))]) hD hS hA [10] rfl
  refine va_calli (va_runV (As := [.int (xs 1), .int (xs 2)]) (rest := [.int (-1)]) ⟨hx, hb, hml, hown, hts⟩ (f_X12_worn l dC dI H.size r ((xs 1)) ((xs 2))) (cwV 2 hts g_f_L_law_f_X12_worn rfl rfl rfl (by decide +kernel) ⟨Nat.le_of_ble_eq_true rfl, Nat.le_of_ble_eq_true rfl⟩) ⟨cW_blind, va_recv hKc hPc (ci := 12) (q0 := 0) rfl rfl, fun U hU hW => ⟨rfl, cW_use hU hW hPc hKc hDc hG⟩⟩ rfl rfl hl.1 rfl (lv_room (Nat.le_of_ble_eq_true rfl)) dL_law_1072 ⟨Nat.le_of_ble_eq_true rfl, Nat.le_of_ble_eq_true rfl⟩) hS (fun q _ h => hFc q h) hFc (fun r_10 u t H1 locs ht hvm hw hB hz1 hk1 hS => ?_)
  obtain ⟨hP, hD⟩ := va_join (wr := [((q 0), .inr (8, [.ref (q 16), .int 0, .int 0, .int 0])), ((q 16), .inl (kB, 240, .inl fB)), ((q 2), .inr (5, [.int 0, .int 0, .int 0, .int 0, .ref (q 24), .ref (q 25), .ref (q 26), .ref (q 27)])), ((q 24), .inl (kR, 2, .inl (fun _ => 0))), ((q 3), .inr (2, [.ref (q 0), .ref (q 28), .int 0])), ((q 4), .inr (3, [.ref (q 30), .ref (q 31), .ref (q 32), .int 0, .int 0, .int (-1), .int 0, .int 0, .int 0, .int 0, .int 0, .int 0])), ((q 5), .inr (9, [.ref (q 33), .ref (q 34), .ref (q 35), .int 0, .int 0])), ((q 8), .inr (7, [.ref (q 36), .ref (q 37), .ref (q 38), .ref (q 39), .int 0, .int 0])), ((q 9), .inr (6, [.int 0, .int 0, .int 0, .ref (q 40), .ref (q 41), .ref (q 42), .ref (q 43)])), ((q 11), .inr (0, [.ref (q 44), .int 0, .int 0])), ((r 1), .inl (kT, 240, .inl fT)), ((r 18), .inl (kU, 2, .inl (fun _ => 0))), ((r 24), .inl (kL, 5, .inl (fun _ => 0))), ((r 32), .inl (kN, 208, .inl (fun _ => 0)))]) (w1 := []) hP hD [10] [0, 1, 2, 3, 4, 5, 6, 7, 8, 9, 11, 12, 13, 14] rfl rfl (by decide) (by decide) hk1 hFc (va_P_nil H1) va_D_nil
  generalize H1 = H at hP hS ⊢
  have hP : va_P (dC, dI) vwCl [((q 0), .inr (8, [.ref (q 16), .int 0, .int 0, .int 0])), ((q 16), .inl (kB, 240, .inl fB)), ((q 2), .inr (5, [.int 0, .int 0, .int 0, .int 0, .ref (q 24), .ref (q 25), .ref (q 26), .ref (q 27)])), ((q 24), .inl (kR, 2, .inl (fun _ => 0))), ((q 3), .inr (2, [.ref (q 0), .ref (q 28), .int 0])), ((q 4), .inr (3, [.ref (q 30), .ref (q 31), .ref (q 32), .int 0, .int 0, .int (-1), .int 0, .int 0, .int 0, .int 0, .int 0, .int 0])), ((q 5), .inr (9, [.ref (q 33), .ref (q 34), .ref (q 35), .int 0, .int 0])), ((q 8), .inr (7, [.ref (q 36), .ref (q 37), .ref (q 38), .ref (q 39), .int 0, .int 0])), ((q 9), .inr (6, [.int 0, .int 0, .int 0, .ref (q 40), .ref (q 41), .ref (q 42), .ref (q 43)])), ((q 11), .inr (0, [.ref (q 44), .int 0, .int 0])), ((r 1), .inl (kT, 240, .inl fT)), ((r 18), .inl (kU, 2, .inl (fun _ => 0))), ((r 24), .inl (kL, 5, .inl (fun _ => 0))), ((r 32), .inl (kN, 208, .inl (fun _ => 0)))] H := hP
  have hD : va_D (fun q : Nat => s.heap.size ≤ q) [((q 0), .inr (8, [.ref (q 16), .int 0, .int 0, .int 0])), ((q 16), .inl (kB, 240, .inl fB)), ((q 2), .inr (5, [.int 0, .int 0, .int 0, .int 0, .ref (q 24), .ref (q 25), .ref (q 26), .ref (q 27)])), ((q 24), .inl (kR, 2, .inl (fun _ => 0))), ((q 3), .inr (2, [.ref (q 0), .ref (q 28), .int 0])), ((q 4), .inr (3, [.ref (q 30), .ref (q 31), .ref (q 32), .int 0, .int 0, .int (-1), .int 0, .int 0, .int 0, .int 0, .int 0, .int 0])), ((q 5), .inr (9, [.ref (q 33), .ref (q 34), .ref (q 35), .int 0, .int 0])), ((q 8), .inr (7, [.ref (q 36), .ref (q 37), .ref (q 38), .ref (q 39), .int 0, .int 0])), ((q 9), .inr (6, [.int 0, .int 0, .int 0, .ref (q 40), .ref (q 41), .ref (q 42), .ref (q 43)])), ((q 11), .inr (0, [.ref (q 44), .int 0, .int 0])), ((r 1), .inl (kT, 240, .inl fT)), ((r 18), .inl (kU, 2, .inl (fun _ => 0))), ((r 24), .inl (kL, 5, .inl (fun _ => 0))), ((r 32), .inl (kN, 208, .inl (fun _ => 0)))] := hD
  refine W.widen (k := 335) (n := 33214) (Nat.le_of_ble_eq_true rfl) (Nat.le_of_ble_eq_true rfl) ?_
  obtain rfl : r_10 = (-1) := hw
  refine lv_icmp_eq (tgt := 1629) hx hb dL_law_1075 (by decide) (fun c_11 => ?_) (fun c_11 => absurd (by decide) c_11)
  exact lc_exit C0 hS (by decide) (by decide) ls (lv_sub hl [0, 4] rfl)
set_option maxHeartbeats 4000000 in
set_option maxRecDepth 100000 in
theorem lc_25 {p : Program} {l : Launch} {e : Env} {s : State} {m : MethodId} {below : List Frame} {meth : Method} {c : Code} {b : Nat} {xs : Nat → Int32} {H : Heap} {locs : List Loc} {ls : Array Slot} {dC : Nat → ClassId} {dI : Nat → Nat → Nat} {sk sv : Nat → Nat} {s2 tz s3 : Nat} (q r : Nat → Nat) (kB : ClassId) (kR : ClassId) (kT : ClassId) (kU : ClassId) (kL : ClassId) (kN : ClassId) (fB fT : Nat → Int32) (qo : Nat) (hlt : l.stackTraces = false) (C0 : lw_At p s m meth c b 6 xs) (hG : gxP s) (hE : exP sk sv s2 tz (fun q : Nat => s.heap.size ≤ q) s s.heap) (hT : tP s3 (fun q : Nat => s.heap.size ≤ q) s s.heap) (hK : va_K (dC, dI) vwCl [(kB, .int), (kR, .int), (kT, .byte), (kU, .int), (kL, .int), (kN, .int)] s) (hP : va_P (dC, dI) vwCl [((q 15), .inr (11, xF q 0 1)), ((q 0), .inr (8, [.ref (q 16), .int 0, .int 0, .int 0])), ((q 16), .inl (kB, 240, .inl fB)), ((q 1), .inr (5, [.int 0, .int 0, .int 0, .int 0, .ref (q 20), .ref (q 21), .ref (q 22), .ref (q 23)])), ((q 2), .inr (5, [.int 0, .int 0, .int 0, .int 0, .ref (q 24), .ref (q 25), .ref (q 26), .ref (q 27)])), ((q 24), .inl (kR, 2, .inl (fun _ => 0))), ((q 3), .inr (2, [.ref (q 0), .ref (q 28), .int 0])), ((q 4), .inr (3, [.ref (q 30), .ref (q 31), .ref (q 32), .int 0, .int 0, .int (-1), .int 0, .int 0, .int 0, .int 0, .int 0, .int 0])), ((q 5), .inr (9, [.ref (q 33), .ref (q 34), .ref (q 35), .int 0, .int 0])), ((q 8), .inr (7, [.ref (q 36), .ref (q 37), .ref (q 38), .ref (q 39), .int 0, .int 0])), ((q 9), .inr (6, [.int 0, .int 0, .int 0, .ref (q 40), .ref (q 41), .ref (q 42), .ref (q 43)])), ((q 11), .inr (0, [.ref (q 44), .int 0, .int 0])), ((r 100), .inr (12, mF r 0 0 0 0 0 0 0 0 0 0 0 0 0 (-1) 1)), ((r 1), .inl (kT, 240, .inl fT)), ((r 18), .inl (kU, 2, .inl (fun _ => 0))), ((r 24), .inl (kL, 5, .inl (fun _ => 0))), ((r 32), .inl (kN, 208, .inl (fun _ => 0)))] H) (hD : va_D (fun q : Nat => s.heap.size ≤ q) [((q 15), .inr (11, xF q 0 1)), ((q 0), .inr (8, [.ref (q 16), .int 0, .int 0, .int 0])), ((q 16), .inl (kB, 240, .inl fB)), ((q 1), .inr (5, [.int 0, .int 0, .int 0, .int 0, .ref (q 20), .ref (q 21), .ref (q 22), .ref (q 23)])), ((q 2), .inr (5, [.int 0, .int 0, .int 0, .int 0, .ref (q 24), .ref (q 25), .ref (q 26), .ref (q 27)])), ((q 24), .inl (kR, 2, .inl (fun _ => 0))), ((q 3), .inr (2, [.ref (q 0), .ref (q 28), .int 0])), ((q 4), .inr (3, [.ref (q 30), .ref (q 31), .ref (q 32), .int 0, .int 0, .int (-1), .int 0, .int 0, .int 0, .int 0, .int 0, .int 0])), ((q 5), .inr (9, [.ref (q 33), .ref (q 34), .ref (q 35), .int 0, .int 0])), ((q 8), .inr (7, [.ref (q 36), .ref (q 37), .ref (q 38), .ref (q 39), .int 0, .int 0])), ((q 9), .inr (6, [.int 0, .int 0, .int 0, .ref (q 40), .ref (q 41), .ref (q 42), .ref (q 43)])), ((q 11), .inr (0, [.ref (q 44), .int 0, .int 0])), ((r 100), .inr (12, mF r 0 0 0 0 0 0 0 0 0 0 0 0 0 (-1) 1)), ((r 1), .inl (kT, 240, .inl fT)), ((r 18), .inl (kU, 2, .inl (fun _ => 0))), ((r 24), .inl (kL, 5, .inl (fun _ => 0))), ((r 32), .inl (kN, 208, .inl (fun _ => 0)))]) (hS : va_S (fun q : Nat => s.heap.size ≤ q) s.heap H locs) (hl : lv_has ls 7 [(0, .ref b), (1, .ref (q 15)), (2, .ref (r 100)), (3, .ref qo), (4, .int 0)]) : W p l e room_1 s m #[Value.ref b] below meth c H locs 335 33214 (lw_Z below #[Value.ref b] s) (F0 m 1080 ls []) := by
  obtain ⟨hx, hb, hr, hml, hown0, hts, hX, hbl, hlocks, hgv⟩ := id C0
  have hown : s.vm.findClass RL = some m.cls := hown0
  have hA : ∀ q : Nat, s.heap.size ≤ q → (fun q : Nat => s.heap.size ≤ q) q := fun _ h => h
  have hbA : ¬ (fun q : Nat => s.heap.size ≤ q) b := Nat.not_le.mpr hbl
  have hiX11 : ∀ w ∈ u_ws RX11 TX11 17, w ∈ lw_tbl := in_X11
  have hiX12 : ∀ w ∈ u_ws RX12 TX12 54, w ∈ lw_tbl := in_X12
  refine lv_aload_n hx hb dL_law_1080 rfl (lv_at hl 1 rfl) ?_
  refine lv_aload_n hx hb dL_law_1081 rfl (lv_at hl 0 rfl) ?_
  refine lv_iload hx hb dL_law_1082 (lv_at hl 4 rfl) ?_
  refine lv_iconst (v := 1) hx hb dL_law_1084 (by decide) ?_
  refine lv_iadd hx hb dL_law_1085 ?_
  refine lv_topi (fun v_1 e_1 => ?_)
  obtain rfl : v_1 = 1 := by rw [e_1]; decide
  refine va_sld hx hb hX hbl hbA hS (i := 1) (vp_in_nI (n := 1) (by decide) (by decide)) dL_law_1086 ?_
  refine lv_topi (fun v_2 e_2 => ?_)
  obtain rfl : v_2 = xs 1 := by rw [e_2]; exact congrArg xs (by decide)
  refine lv_aload_n hx hb dL_law_1087 rfl (lv_at hl 0 rfl) ?_
  refine lv_iload hx hb dL_law_1088 (lv_at hl 4 rfl) ?_
  refine lv_iconst (v := 2) hx hb dL_law_1090 (by decide) ?_
  refine lv_iadd hx hb dL_law_1091 ?_
  refine lv_topi (fun v_3 e_3 => ?_)
  obtain rfl : v_3 = 2 := by rw [e_3]; decide
  refine va_sld hx hb hX hbl hbA hS (i := 2) (vp_in_nI (n := 2) (by decide) (by decide)) dL_law_1092 ?_
  refine lv_topi (fun v_4 e_4 => ?_)
  obtain rfl : v_4 = xs 2 := by rw [e_4]; exact congrArg xs (by decide)
  refine lv_tern (a := 1) (b := 0) hx hb dL_law_1093 (by decide) dL_law_1096 (by decide) dL_law_1097 (by decide) dL_law_1100 (by decide) rfl (fun y_5 ey_5 => ?_)
  have hPc := hP.sub (ws' := [((q 15), .inr (11, xF q 0 1)), ((q 1), .inr (5, [.int 0, .int 0, .int 0, .int 0, .ref (q 20), .ref (q 21), .ref (q 22), .ref (q 23)]))]) [0, 3] rfl
  have hDc := hD.sub (ws' := [((q 15), .inr (11, xF q 0 1)), ((q 1), .inr (5, [.int 0, .int 0, .int 0, .int 0, .ref (q 20), .ref (q 21), .ref (q 22), .ref (q 23)]))]) [0, 3] (by decide) rfl
  have hKc := hK.sub (tys' := []) [] rfl
  have hFc := va_free (wc := [((q 15), .inr (11, xF q 0 1)), ((q 1), .inr (5, [.int 0, .int 0, .int 0, .int 0, .ref (q 20), .ref (q 21), .ref (q 22), .ref (q 23)]))]) hD hS hA [0, 3] rfl
  refine va_calli (va_runV (As := [.int (xs 1), .int y_5]) (rest := []) ⟨hx, hb, hml, hown, hts⟩ (f_X11_seen l dC dI H.size q ((xs 1)) y_5) (cwV 2 hts g_f_L_law_f_X11_seen rfl rfl rfl (by decide +kernel) ⟨Nat.le_of_ble_eq_true rfl, Nat.le_of_ble_eq_true rfl⟩) ⟨cW_blind, va_recv hKc hPc (ci := 11) (q0 := 0) rfl rfl, fun U hU hW => ⟨rfl, cW_use hU hW hPc hKc hDc hG⟩⟩ rfl rfl hl.1 rfl (lv_room (Nat.le_of_ble_eq_true rfl)) dL_law_1101 ⟨Nat.le_of_ble_eq_true rfl, Nat.le_of_ble_eq_true rfl⟩) hS (fun q _ h => hFc q h) hFc (fun r_6 u t H1 locs ht hvm hw hB hz1 hk1 hS => ?_)
  obtain ⟨hP, hD⟩ := va_join (wr := [((q 0), .inr (8, [.ref (q 16), .int 0, .int 0, .int 0])), ((q 16), .inl (kB, 240, .inl fB)), ((q 2), .inr (5, [.int 0, .int 0, .int 0, .int 0, .ref (q 24), .ref (q 25), .ref (q 26), .ref (q 27)])), ((q 24), .inl (kR, 2, .inl (fun _ => 0))), ((q 3), .inr (2, [.ref (q 0), .ref (q 28), .int 0])), ((q 4), .inr (3, [.ref (q 30), .ref (q 31), .ref (q 32), .int 0, .int 0, .int (-1), .int 0, .int 0, .int 0, .int 0, .int 0, .int 0])), ((q 5), .inr (9, [.ref (q 33), .ref (q 34), .ref (q 35), .int 0, .int 0])), ((q 8), .inr (7, [.ref (q 36), .ref (q 37), .ref (q 38), .ref (q 39), .int 0, .int 0])), ((q 9), .inr (6, [.int 0, .int 0, .int 0, .ref (q 40), .ref (q 41), .ref (q 42), .ref (q 43)])), ((q 11), .inr (0, [.ref (q 44), .int 0, .int 0])), ((r 100), .inr (12, mF r 0 0 0 0 0 0 0 0 0 0 0 0 0 (-1) 1)), ((r 1), .inl (kT, 240, .inl fT)), ((r 18), .inl (kU, 2, .inl (fun _ => 0))), ((r 24), .inl (kL, 5, .inl (fun _ => 0))), ((r 32), .inl (kN, 208, .inl (fun _ => 0)))]) (w1 := []) hP hD [0, 3] [1, 2, 4, 5, 6, 7, 8, 9, 10, 11, 12, 13, 14, 15, 16] rfl rfl (by decide) (by decide) hk1 hFc (va_P_nil H1) va_D_nil
  generalize H1 = H at hP hS ⊢
  have hP : va_P (dC, dI) vwCl [((q 0), .inr (8, [.ref (q 16), .int 0, .int 0, .int 0])), ((q 16), .inl (kB, 240, .inl fB)), ((q 2), .inr (5, [.int 0, .int 0, .int 0, .int 0, .ref (q 24), .ref (q 25), .ref (q 26), .ref (q 27)])), ((q 24), .inl (kR, 2, .inl (fun _ => 0))), ((q 3), .inr (2, [.ref (q 0), .ref (q 28), .int 0])), ((q 4), .inr (3, [.ref (q 30), .ref (q 31), .ref (q 32), .int 0, .int 0, .int (-1), .int 0, .int 0, .int 0, .int 0, .int 0, .int 0])), ((q 5), .inr (9, [.ref (q 33), .ref (q 34), .ref (q 35), .int 0, .int 0])), ((q 8), .inr (7, [.ref (q 36), .ref (q 37), .ref (q 38), .ref (q 39), .int 0, .int 0])), ((q 9), .inr (6, [.int 0, .int 0, .int 0, .ref (q 40), .ref (q 41), .ref (q 42), .ref (q 43)])), ((q 11), .inr (0, [.ref (q 44), .int 0, .int 0])), ((r 100), .inr (12, mF r 0 0 0 0 0 0 0 0 0 0 0 0 0 (-1) 1)), ((r 1), .inl (kT, 240, .inl fT)), ((r 18), .inl (kU, 2, .inl (fun _ => 0))), ((r 24), .inl (kL, 5, .inl (fun _ => 0))), ((r 32), .inl (kN, 208, .inl (fun _ => 0)))] H := hP
  have hD : va_D (fun q : Nat => s.heap.size ≤ q) [((q 0), .inr (8, [.ref (q 16), .int 0, .int 0, .int 0])), ((q 16), .inl (kB, 240, .inl fB)), ((q 2), .inr (5, [.int 0, .int 0, .int 0, .int 0, .ref (q 24), .ref (q 25), .ref (q 26), .ref (q 27)])), ((q 24), .inl (kR, 2, .inl (fun _ => 0))), ((q 3), .inr (2, [.ref (q 0), .ref (q 28), .int 0])), ((q 4), .inr (3, [.ref (q 30), .ref (q 31), .ref (q 32), .int 0, .int 0, .int (-1), .int 0, .int 0, .int 0, .int 0, .int 0, .int 0])), ((q 5), .inr (9, [.ref (q 33), .ref (q 34), .ref (q 35), .int 0, .int 0])), ((q 8), .inr (7, [.ref (q 36), .ref (q 37), .ref (q 38), .ref (q 39), .int 0, .int 0])), ((q 9), .inr (6, [.int 0, .int 0, .int 0, .ref (q 40), .ref (q 41), .ref (q 42), .ref (q 43)])), ((q 11), .inr (0, [.ref (q 44), .int 0, .int 0])), ((r 100), .inr (12, mF r 0 0 0 0 0 0 0 0 0 0 0 0 0 (-1) 1)), ((r 1), .inl (kT, 240, .inl fT)), ((r 18), .inl (kU, 2, .inl (fun _ => 0))), ((r 24), .inl (kL, 5, .inl (fun _ => 0))), ((r 32), .inl (kN, 208, .inl (fun _ => 0)))] := hD
  refine W.widen (k := 335) (n := 33214) (Nat.le_of_ble_eq_true rfl) (Nat.le_of_ble_eq_true rfl) ?_
  obtain rfl : r_6 = (-1) := hw
  refine lv_aload_n hx hb dL_law_1104 rfl (lv_at hl 2 rfl) ?_
  refine lv_aload_n hx hb dL_law_1105 rfl (lv_at hl 0 rfl) ?_
  refine lv_iload hx hb dL_law_1106 (lv_at hl 4 rfl) ?_
  refine lv_iconst (v := 1) hx hb dL_law_1108 (by decide) ?_
  refine lv_iadd hx hb dL_law_1109 ?_
  refine lv_topi (fun v_7 e_7 => ?_)
  obtain rfl : v_7 = 1 := by rw [e_7]; decide
  refine va_sld hx hb hX hbl hbA hS (i := 1) (vp_in_nI (n := 1) (by decide) (by decide)) dL_law_1110 ?_
  refine lv_topi (fun v_8 e_8 => ?_)
  obtain rfl : v_8 = xs 1 := by rw [e_8]; exact congrArg xs (by decide)
  refine lv_aload_n hx hb dL_law_1111 rfl (lv_at hl 0 rfl) ?_
  refine lv_iload hx hb dL_law_1112 (lv_at hl 4 rfl) ?_
  refine lv_iconst (v := 2) hx hb dL_law_1114 (by decide) ?_
  refine lv_iadd hx hb dL_law_1115 ?_
  refine lv_topi (fun v_9 e_9 => ?_)
  obtain rfl : v_9 = 2 := by rw [e_9]; decide
  refine va_sld hx hb hX hbl hbA hS (i := 2) (vp_in_nI (n := 2) (by decide) (by decide)) dL_law_1116 ?_
  refine lv_topi (fun v_10 e_10 => ?_)
  obtain rfl : v_10 = xs 2 := by rw [e_10]; exact congrArg xs (by decide)
  refine lv_tern (a := 1) (b := 0) hx hb dL_law_1117 (by decide) dL_law_1120 (by decide) dL_law_1121 (by decide) dL_law_1124 (by decide) rfl (fun y_11 ey_11 => ?_)
  have hPc := hP.sub (ws' := [((r 100), .inr (12, mF r 0 0 0 0 0 0 0 0 0 0 0 0 0 (-1) 1))]) [10] rfl
  have hDc := hD.sub (ws' := [((r 100), .inr (12, mF r 0 0 0 0 0 0 0 0 0 0 0 0 0 (-1) 1))]) [10] (by decide) rfl
  have hKc := hK.sub (tys' := []) [] rfl
  have hFc := va_free (wc := [((r 100), .inr (12, mF r 0 0 0 0 0 0 0 0 0 0 0 0 0 (-1) 1))]) hD hS hA [10] rfl
  refine va_calli (va_runV (As := [.int (xs 1), .int y_11]) (rest := [.int (-1)]) ⟨hx, hb, hml, hown, hts⟩ (f_X12_seen l dC dI H.size r ((xs 1)) y_11) (cwV 2 hts g_f_L_law_f_X12_seen rfl rfl rfl (by decide +kernel) ⟨Nat.le_of_ble_eq_true rfl, Nat.le_of_ble_eq_true rfl⟩) ⟨cW_blind, va_recv hKc hPc (ci := 12) (q0 := 0) rfl rfl, fun U hU hW => ⟨rfl, cW_use hU hW hPc hKc hDc hG⟩⟩ rfl rfl hl.1 rfl (lv_room (Nat.le_of_ble_eq_true rfl)) dL_law_1125 ⟨Nat.le_of_ble_eq_true rfl, Nat.le_of_ble_eq_true rfl⟩) hS (fun q _ h => hFc q h) hFc (fun r_12 u t H1 locs ht hvm hw hB hz1 hk1 hS => ?_)
  obtain ⟨hP, hD⟩ := va_join (wr := [((q 0), .inr (8, [.ref (q 16), .int 0, .int 0, .int 0])), ((q 16), .inl (kB, 240, .inl fB)), ((q 2), .inr (5, [.int 0, .int 0, .int 0, .int 0, .ref (q 24), .ref (q 25), .ref (q 26), .ref (q 27)])), ((q 24), .inl (kR, 2, .inl (fun _ => 0))), ((q 3), .inr (2, [.ref (q 0), .ref (q 28), .int 0])), ((q 4), .inr (3, [.ref (q 30), .ref (q 31), .ref (q 32), .int 0, .int 0, .int (-1), .int 0, .int 0, .int 0, .int 0, .int 0, .int 0])), ((q 5), .inr (9, [.ref (q 33), .ref (q 34), .ref (q 35), .int 0, .int 0])), ((q 8), .inr (7, [.ref (q 36), .ref (q 37), .ref (q 38), .ref (q 39), .int 0, .int 0])), ((q 9), .inr (6, [.int 0, .int 0, .int 0, .ref (q 40), .ref (q 41), .ref (q 42), .ref (q 43)])), ((q 11), .inr (0, [.ref (q 44), .int 0, .int 0])), ((r 1), .inl (kT, 240, .inl fT)), ((r 18), .inl (kU, 2, .inl (fun _ => 0))), ((r 24), .inl (kL, 5, .inl (fun _ => 0))), ((r 32), .inl (kN, 208, .inl (fun _ => 0)))]) (w1 := []) hP hD [10] [0, 1, 2, 3, 4, 5, 6, 7, 8, 9, 11, 12, 13, 14] rfl rfl (by decide) (by decide) hk1 hFc (va_P_nil H1) va_D_nil
  generalize H1 = H at hP hS ⊢
  have hP : va_P (dC, dI) vwCl [((q 0), .inr (8, [.ref (q 16), .int 0, .int 0, .int 0])), ((q 16), .inl (kB, 240, .inl fB)), ((q 2), .inr (5, [.int 0, .int 0, .int 0, .int 0, .ref (q 24), .ref (q 25), .ref (q 26), .ref (q 27)])), ((q 24), .inl (kR, 2, .inl (fun _ => 0))), ((q 3), .inr (2, [.ref (q 0), .ref (q 28), .int 0])), ((q 4), .inr (3, [.ref (q 30), .ref (q 31), .ref (q 32), .int 0, .int 0, .int (-1), .int 0, .int 0, .int 0, .int 0, .int 0, .int 0])), ((q 5), .inr (9, [.ref (q 33), .ref (q 34), .ref (q 35), .int 0, .int 0])), ((q 8), .inr (7, [.ref (q 36), .ref (q 37), .ref (q 38), .ref (q 39), .int 0, .int 0])), ((q 9), .inr (6, [.int 0, .int 0, .int 0, .ref (q 40), .ref (q 41), .ref (q 42), .ref (q 43)])), ((q 11), .inr (0, [.ref (q 44), .int 0, .int 0])), ((r 1), .inl (kT, 240, .inl fT)), ((r 18), .inl (kU, 2, .inl (fun _ => 0))), ((r 24), .inl (kL, 5, .inl (fun _ => 0))), ((r 32), .inl (kN, 208, .inl (fun _ => 0)))] H := hP
  have hD : va_D (fun q : Nat => s.heap.size ≤ q) [((q 0), .inr (8, [.ref (q 16), .int 0, .int 0, .int 0])), ((q 16), .inl (kB, 240, .inl fB)), ((q 2), .inr (5, [.int 0, .int 0, .int 0, .int 0, .ref (q 24), .ref (q 25), .ref (q 26), .ref (q 27)])), ((q 24), .inl (kR, 2, .inl (fun _ => 0))), ((q 3), .inr (2, [.ref (q 0), .ref (q 28), .int 0])), ((q 4), .inr (3, [.ref (q 30), .ref (q 31), .ref (q 32), .int 0, .int 0, .int (-1), .int 0, .int 0, .int 0, .int 0, .int 0, .int 0])), ((q 5), .inr (9, [.ref (q 33), .ref (q 34), .ref (q 35), .int 0, .int 0])), ((q 8), .inr (7, [.ref (q 36), .ref (q 37), .ref (q 38), .ref (q 39), .int 0, .int 0])), ((q 9), .inr (6, [.int 0, .int 0, .int 0, .ref (q 40), .ref (q 41), .ref (q 42), .ref (q 43)])), ((q 11), .inr (0, [.ref (q 44), .int 0, .int 0])), ((r 1), .inl (kT, 240, .inl fT)), ((r 18), .inl (kU, 2, .inl (fun _ => 0))), ((r 24), .inl (kL, 5, .inl (fun _ => 0))), ((r 32), .inl (kN, 208, .inl (fun _ => 0)))] := hD
  refine W.widen (k := 335) (n := 33214) (Nat.le_of_ble_eq_true rfl) (Nat.le_of_ble_eq_true rfl) ?_
  obtain rfl : r_12 = (-1) := hw
  refine lv_icmp_eq (tgt := 1629) hx hb dL_law_1128 (by decide) (fun c_13 => ?_) (fun c_13 => absurd (by decide) c_13)
  exact lc_exit C0 hS (by decide) (by decide) ls (lv_sub hl [0, 4] rfl)
set_option maxHeartbeats 4000000 in
set_option maxRecDepth 100000 in
theorem lc_26 {p : Program} {l : Launch} {e : Env} {s : State} {m : MethodId} {below : List Frame} {meth : Method} {c : Code} {b : Nat} {xs : Nat → Int32} {H : Heap} {locs : List Loc} {ls : Array Slot} {dC : Nat → ClassId} {dI : Nat → Nat → Nat} {sk sv : Nat → Nat} {s2 tz s3 : Nat} (q r : Nat → Nat) (kB : ClassId) (kR : ClassId) (kT : ClassId) (kU : ClassId) (kL : ClassId) (kN : ClassId) (fB fT : Nat → Int32) (qo : Nat) (hlt : l.stackTraces = false) (C0 : lw_At p s m meth c b 6 xs) (hG : gxP s) (hE : exP sk sv s2 tz (fun q : Nat => s.heap.size ≤ q) s s.heap) (hT : tP s3 (fun q : Nat => s.heap.size ≤ q) s s.heap) (hK : va_K (dC, dI) vwCl [(kB, .int), (kR, .int), (kT, .byte), (kU, .int), (kL, .int), (kN, .int)] s) (hP : va_P (dC, dI) vwCl [((q 15), .inr (11, xF q 0 1)), ((q 0), .inr (8, [.ref (q 16), .int 0, .int 0, .int 0])), ((q 16), .inl (kB, 240, .inl fB)), ((q 1), .inr (5, [.int 0, .int 0, .int 0, .int 0, .ref (q 20), .ref (q 21), .ref (q 22), .ref (q 23)])), ((q 2), .inr (5, [.int 0, .int 0, .int 0, .int 0, .ref (q 24), .ref (q 25), .ref (q 26), .ref (q 27)])), ((q 24), .inl (kR, 2, .inl (fun _ => 0))), ((q 3), .inr (2, [.ref (q 0), .ref (q 28), .int 0])), ((q 4), .inr (3, [.ref (q 30), .ref (q 31), .ref (q 32), .int 0, .int 0, .int (-1), .int 0, .int 0, .int 0, .int 0, .int 0, .int 0])), ((q 5), .inr (9, [.ref (q 33), .ref (q 34), .ref (q 35), .int 0, .int 0])), ((q 8), .inr (7, [.ref (q 36), .ref (q 37), .ref (q 38), .ref (q 39), .int 0, .int 0])), ((q 9), .inr (6, [.int 0, .int 0, .int 0, .ref (q 40), .ref (q 41), .ref (q 42), .ref (q 43)])), ((q 11), .inr (0, [.ref (q 44), .int 0, .int 0])), ((r 100), .inr (12, mF r 0 0 0 0 0 0 0 0 0 0 0 0 0 (-1) 1)), ((r 1), .inl (kT, 240, .inl fT)), ((r 18), .inl (kU, 2, .inl (fun _ => 0))), ((r 24), .inl (kL, 5, .inl (fun _ => 0))), ((r 32), .inl (kN, 208, .inl (fun _ => 0)))] H) (hD : va_D (fun q : Nat => s.heap.size ≤ q) [((q 15), .inr (11, xF q 0 1)), ((q 0), .inr (8, [.ref (q 16), .int 0, .int 0, .int 0])), ((q 16), .inl (kB, 240, .inl fB)), ((q 1), .inr (5, [.int 0, .int 0, .int 0, .int 0, .ref (q 20), .ref (q 21), .ref (q 22), .ref (q 23)])), ((q 2), .inr (5, [.int 0, .int 0, .int 0, .int 0, .ref (q 24), .ref (q 25), .ref (q 26), .ref (q 27)])), ((q 24), .inl (kR, 2, .inl (fun _ => 0))), ((q 3), .inr (2, [.ref (q 0), .ref (q 28), .int 0])), ((q 4), .inr (3, [.ref (q 30), .ref (q 31), .ref (q 32), .int 0, .int 0, .int (-1), .int 0, .int 0, .int 0, .int 0, .int 0, .int 0])), ((q 5), .inr (9, [.ref (q 33), .ref (q 34), .ref (q 35), .int 0, .int 0])), ((q 8), .inr (7, [.ref (q 36), .ref (q 37), .ref (q 38), .ref (q 39), .int 0, .int 0])), ((q 9), .inr (6, [.int 0, .int 0, .int 0, .ref (q 40), .ref (q 41), .ref (q 42), .ref (q 43)])), ((q 11), .inr (0, [.ref (q 44), .int 0, .int 0])), ((r 100), .inr (12, mF r 0 0 0 0 0 0 0 0 0 0 0 0 0 (-1) 1)), ((r 1), .inl (kT, 240, .inl fT)), ((r 18), .inl (kU, 2, .inl (fun _ => 0))), ((r 24), .inl (kL, 5, .inl (fun _ => 0))), ((r 32), .inl (kN, 208, .inl (fun _ => 0)))]) (hS : va_S (fun q : Nat => s.heap.size ≤ q) s.heap H locs) (hl : lv_has ls 7 [(0, .ref b), (1, .ref (q 15)), (2, .ref (r 100)), (3, .ref qo), (4, .int 0)]) : W p l e room_1 s m #[Value.ref b] below meth c H locs 335 33214 (lw_Z below #[Value.ref b] s) (F0 m 1133 ls []) := by
  obtain ⟨hx, hb, hr, hml, hown0, hts, hX, hbl, hlocks, hgv⟩ := id C0
  have hown : s.vm.findClass RL = some m.cls := hown0
  have hA : ∀ q : Nat, s.heap.size ≤ q → (fun q : Nat => s.heap.size ≤ q) q := fun _ h => h
  have hbA : ¬ (fun q : Nat => s.heap.size ≤ q) b := Nat.not_le.mpr hbl
  have hiX11 : ∀ w ∈ u_ws RX11 TX11 17, w ∈ lw_tbl := in_X11
  have hiX12 : ∀ w ∈ u_ws RX12 TX12 54, w ∈ lw_tbl := in_X12
  refine lv_aload_n hx hb dL_law_1133 rfl (lv_at hl 1 rfl) ?_
  refine lv_aload_n hx hb dL_law_1134 rfl (lv_at hl 0 rfl) ?_
  refine lv_iload hx hb dL_law_1135 (lv_at hl 4 rfl) ?_
  refine lv_iconst (v := 1) hx hb dL_law_1137 (by decide) ?_
  refine lv_iadd hx hb dL_law_1138 ?_
  refine lv_topi (fun v_1 e_1 => ?_)
  obtain rfl : v_1 = 1 := by rw [e_1]; decide
  refine va_sld hx hb hX hbl hbA hS (i := 1) (vp_in_nI (n := 1) (by decide) (by decide)) dL_law_1139 ?_
  refine lv_topi (fun v_2 e_2 => ?_)
  obtain rfl : v_2 = xs 1 := by rw [e_2]; exact congrArg xs (by decide)
  have hPc := hP.sub (ws' := [((q 15), .inr (11, xF q 0 1)), ((q 1), .inr (5, [.int 0, .int 0, .int 0, .int 0, .ref (q 20), .ref (q 21), .ref (q 22), .ref (q 23)]))]) [0, 3] rfl
  have hDc := hD.sub (ws' := [((q 15), .inr (11, xF q 0 1)), ((q 1), .inr (5, [.int 0, .int 0, .int 0, .int 0, .ref (q 20), .ref (q 21), .ref (q 22), .ref (q 23)]))]) [0, 3] (by decide) rfl
  have hKc := hK.sub (tys' := []) [] rfl
  have hFc := va_free (wc := [((q 15), .inr (11, xF q 0 1)), ((q 1), .inr (5, [.int 0, .int 0, .int 0, .int 0, .ref (q 20), .ref (q 21), .ref (q 22), .ref (q 23)]))]) hD hS hA [0, 3] rfl
  refine va_calli (va_runV (As := [.int (xs 1)]) (rest := []) ⟨hx, hb, hml, hown, hts⟩ (f_X11_knocked l dC dI H.size q ((xs 1))) (cwV 1 hts g_f_L_law_f_X11_knocked rfl rfl rfl (by decide +kernel) ⟨Nat.le_of_ble_eq_true rfl, Nat.le_of_ble_eq_true rfl⟩) ⟨cW_blind, va_recv hKc hPc (ci := 11) (q0 := 0) rfl rfl, fun U hU hW => ⟨rfl, cW_use hU hW hPc hKc hDc hG⟩⟩ rfl rfl hl.1 rfl (lv_room (Nat.le_of_ble_eq_true rfl)) dL_law_1140 ⟨Nat.le_of_ble_eq_true rfl, Nat.le_of_ble_eq_true rfl⟩) hS (fun q _ h => hFc q h) hFc (fun r_3 u t H1 locs ht hvm hw hB hz1 hk1 hS => ?_)
  obtain ⟨hP, hD⟩ := va_join (wr := [((q 0), .inr (8, [.ref (q 16), .int 0, .int 0, .int 0])), ((q 16), .inl (kB, 240, .inl fB)), ((q 2), .inr (5, [.int 0, .int 0, .int 0, .int 0, .ref (q 24), .ref (q 25), .ref (q 26), .ref (q 27)])), ((q 24), .inl (kR, 2, .inl (fun _ => 0))), ((q 3), .inr (2, [.ref (q 0), .ref (q 28), .int 0])), ((q 4), .inr (3, [.ref (q 30), .ref (q 31), .ref (q 32), .int 0, .int 0, .int (-1), .int 0, .int 0, .int 0, .int 0, .int 0, .int 0])), ((q 5), .inr (9, [.ref (q 33), .ref (q 34), .ref (q 35), .int 0, .int 0])), ((q 8), .inr (7, [.ref (q 36), .ref (q 37), .ref (q 38), .ref (q 39), .int 0, .int 0])), ((q 9), .inr (6, [.int 0, .int 0, .int 0, .ref (q 40), .ref (q 41), .ref (q 42), .ref (q 43)])), ((q 11), .inr (0, [.ref (q 44), .int 0, .int 0])), ((r 100), .inr (12, mF r 0 0 0 0 0 0 0 0 0 0 0 0 0 (-1) 1)), ((r 1), .inl (kT, 240, .inl fT)), ((r 18), .inl (kU, 2, .inl (fun _ => 0))), ((r 24), .inl (kL, 5, .inl (fun _ => 0))), ((r 32), .inl (kN, 208, .inl (fun _ => 0)))]) (w1 := []) hP hD [0, 3] [1, 2, 4, 5, 6, 7, 8, 9, 10, 11, 12, 13, 14, 15, 16] rfl rfl (by decide) (by decide) hk1 hFc (va_P_nil H1) va_D_nil
  generalize H1 = H at hP hS ⊢
  have hP : va_P (dC, dI) vwCl [((q 0), .inr (8, [.ref (q 16), .int 0, .int 0, .int 0])), ((q 16), .inl (kB, 240, .inl fB)), ((q 2), .inr (5, [.int 0, .int 0, .int 0, .int 0, .ref (q 24), .ref (q 25), .ref (q 26), .ref (q 27)])), ((q 24), .inl (kR, 2, .inl (fun _ => 0))), ((q 3), .inr (2, [.ref (q 0), .ref (q 28), .int 0])), ((q 4), .inr (3, [.ref (q 30), .ref (q 31), .ref (q 32), .int 0, .int 0, .int (-1), .int 0, .int 0, .int 0, .int 0, .int 0, .int 0])), ((q 5), .inr (9, [.ref (q 33), .ref (q 34), .ref (q 35), .int 0, .int 0])), ((q 8), .inr (7, [.ref (q 36), .ref (q 37), .ref (q 38), .ref (q 39), .int 0, .int 0])), ((q 9), .inr (6, [.int 0, .int 0, .int 0, .ref (q 40), .ref (q 41), .ref (q 42), .ref (q 43)])), ((q 11), .inr (0, [.ref (q 44), .int 0, .int 0])), ((r 100), .inr (12, mF r 0 0 0 0 0 0 0 0 0 0 0 0 0 (-1) 1)), ((r 1), .inl (kT, 240, .inl fT)), ((r 18), .inl (kU, 2, .inl (fun _ => 0))), ((r 24), .inl (kL, 5, .inl (fun _ => 0))), ((r 32), .inl (kN, 208, .inl (fun _ => 0)))] H := hP
  have hD : va_D (fun q : Nat => s.heap.size ≤ q) [((q 0), .inr (8, [.ref (q 16), .int 0, .int 0, .int 0])), ((q 16), .inl (kB, 240, .inl fB)), ((q 2), .inr (5, [.int 0, .int 0, .int 0, .int 0, .ref (q 24), .ref (q 25), .ref (q 26), .ref (q 27)])), ((q 24), .inl (kR, 2, .inl (fun _ => 0))), ((q 3), .inr (2, [.ref (q 0), .ref (q 28), .int 0])), ((q 4), .inr (3, [.ref (q 30), .ref (q 31), .ref (q 32), .int 0, .int 0, .int (-1), .int 0, .int 0, .int 0, .int 0, .int 0, .int 0])), ((q 5), .inr (9, [.ref (q 33), .ref (q 34), .ref (q 35), .int 0, .int 0])), ((q 8), .inr (7, [.ref (q 36), .ref (q 37), .ref (q 38), .ref (q 39), .int 0, .int 0])), ((q 9), .inr (6, [.int 0, .int 0, .int 0, .ref (q 40), .ref (q 41), .ref (q 42), .ref (q 43)])), ((q 11), .inr (0, [.ref (q 44), .int 0, .int 0])), ((r 100), .inr (12, mF r 0 0 0 0 0 0 0 0 0 0 0 0 0 (-1) 1)), ((r 1), .inl (kT, 240, .inl fT)), ((r 18), .inl (kU, 2, .inl (fun _ => 0))), ((r 24), .inl (kL, 5, .inl (fun _ => 0))), ((r 32), .inl (kN, 208, .inl (fun _ => 0)))] := hD
  refine W.widen (k := 335) (n := 33214) (Nat.le_of_ble_eq_true rfl) (Nat.le_of_ble_eq_true rfl) ?_
  obtain rfl : r_3 = (-1) := hw
  refine lv_aload_n hx hb dL_law_1143 rfl (lv_at hl 2 rfl) ?_
  refine lv_aload_n hx hb dL_law_1144 rfl (lv_at hl 0 rfl) ?_
  refine lv_iload hx hb dL_law_1145 (lv_at hl 4 rfl) ?_
  refine lv_iconst (v := 1) hx hb dL_law_1147 (by decide) ?_
  refine lv_iadd hx hb dL_law_1148 ?_
  refine lv_topi (fun v_4 e_4 => ?_)
  obtain rfl : v_4 = 1 := by rw [e_4]; decide
  refine va_sld hx hb hX hbl hbA hS (i := 1) (vp_in_nI (n := 1) (by decide) (by decide)) dL_law_1149 ?_
  refine lv_topi (fun v_5 e_5 => ?_)
  obtain rfl : v_5 = xs 1 := by rw [e_5]; exact congrArg xs (by decide)
  have hPc := hP.sub (ws' := [((r 100), .inr (12, mF r 0 0 0 0 0 0 0 0 0 0 0 0 0 (-1) 1))]) [10] rfl
  have hDc := hD.sub (ws' := [((r 100), .inr (12, mF r 0 0 0 0 0 0 0 0 0 0 0 0 0 (-1) 1))]) [10] (by decide) rfl
  have hKc := hK.sub (tys' := []) [] rfl
  have hFc := va_free (wc := [((r 100), .inr (12, mF r 0 0 0 0 0 0 0 0 0 0 0 0 0 (-1) 1))]) hD hS hA [10] rfl
  refine va_calli (va_runV (As := [.int (xs 1)]) (rest := [.int (-1)]) ⟨hx, hb, hml, hown, hts⟩ (f_X12_knocked l dC dI H.size r ((xs 1))) (cwV 1 hts g_f_L_law_f_X12_knocked rfl rfl rfl (by decide +kernel) ⟨Nat.le_of_ble_eq_true rfl, Nat.le_of_ble_eq_true rfl⟩) ⟨cW_blind, va_recv hKc hPc (ci := 12) (q0 := 0) rfl rfl, fun U hU hW => ⟨rfl, cW_use hU hW hPc hKc hDc hG⟩⟩ rfl rfl hl.1 rfl (lv_room (Nat.le_of_ble_eq_true rfl)) dL_law_1150 ⟨Nat.le_of_ble_eq_true rfl, Nat.le_of_ble_eq_true rfl⟩) hS (fun q _ h => hFc q h) hFc (fun r_6 u t H1 locs ht hvm hw hB hz1 hk1 hS => ?_)
  obtain ⟨hP, hD⟩ := va_join (wr := [((q 0), .inr (8, [.ref (q 16), .int 0, .int 0, .int 0])), ((q 16), .inl (kB, 240, .inl fB)), ((q 2), .inr (5, [.int 0, .int 0, .int 0, .int 0, .ref (q 24), .ref (q 25), .ref (q 26), .ref (q 27)])), ((q 24), .inl (kR, 2, .inl (fun _ => 0))), ((q 3), .inr (2, [.ref (q 0), .ref (q 28), .int 0])), ((q 4), .inr (3, [.ref (q 30), .ref (q 31), .ref (q 32), .int 0, .int 0, .int (-1), .int 0, .int 0, .int 0, .int 0, .int 0, .int 0])), ((q 5), .inr (9, [.ref (q 33), .ref (q 34), .ref (q 35), .int 0, .int 0])), ((q 8), .inr (7, [.ref (q 36), .ref (q 37), .ref (q 38), .ref (q 39), .int 0, .int 0])), ((q 9), .inr (6, [.int 0, .int 0, .int 0, .ref (q 40), .ref (q 41), .ref (q 42), .ref (q 43)])), ((q 11), .inr (0, [.ref (q 44), .int 0, .int 0])), ((r 1), .inl (kT, 240, .inl fT)), ((r 18), .inl (kU, 2, .inl (fun _ => 0))), ((r 24), .inl (kL, 5, .inl (fun _ => 0))), ((r 32), .inl (kN, 208, .inl (fun _ => 0)))]) (w1 := []) hP hD [10] [0, 1, 2, 3, 4, 5, 6, 7, 8, 9, 11, 12, 13, 14] rfl rfl (by decide) (by decide) hk1 hFc (va_P_nil H1) va_D_nil
  generalize H1 = H at hP hS ⊢
  have hP : va_P (dC, dI) vwCl [((q 0), .inr (8, [.ref (q 16), .int 0, .int 0, .int 0])), ((q 16), .inl (kB, 240, .inl fB)), ((q 2), .inr (5, [.int 0, .int 0, .int 0, .int 0, .ref (q 24), .ref (q 25), .ref (q 26), .ref (q 27)])), ((q 24), .inl (kR, 2, .inl (fun _ => 0))), ((q 3), .inr (2, [.ref (q 0), .ref (q 28), .int 0])), ((q 4), .inr (3, [.ref (q 30), .ref (q 31), .ref (q 32), .int 0, .int 0, .int (-1), .int 0, .int 0, .int 0, .int 0, .int 0, .int 0])), ((q 5), .inr (9, [.ref (q 33), .ref (q 34), .ref (q 35), .int 0, .int 0])), ((q 8), .inr (7, [.ref (q 36), .ref (q 37), .ref (q 38), .ref (q 39), .int 0, .int 0])), ((q 9), .inr (6, [.int 0, .int 0, .int 0, .ref (q 40), .ref (q 41), .ref (q 42), .ref (q 43)])), ((q 11), .inr (0, [.ref (q 44), .int 0, .int 0])), ((r 1), .inl (kT, 240, .inl fT)), ((r 18), .inl (kU, 2, .inl (fun _ => 0))), ((r 24), .inl (kL, 5, .inl (fun _ => 0))), ((r 32), .inl (kN, 208, .inl (fun _ => 0)))] H := hP
  have hD : va_D (fun q : Nat => s.heap.size ≤ q) [((q 0), .inr (8, [.ref (q 16), .int 0, .int 0, .int 0])), ((q 16), .inl (kB, 240, .inl fB)), ((q 2), .inr (5, [.int 0, .int 0, .int 0, .int 0, .ref (q 24), .ref (q 25), .ref (q 26), .ref (q 27)])), ((q 24), .inl (kR, 2, .inl (fun _ => 0))), ((q 3), .inr (2, [.ref (q 0), .ref (q 28), .int 0])), ((q 4), .inr (3, [.ref (q 30), .ref (q 31), .ref (q 32), .int 0, .int 0, .int (-1), .int 0, .int 0, .int 0, .int 0, .int 0, .int 0])), ((q 5), .inr (9, [.ref (q 33), .ref (q 34), .ref (q 35), .int 0, .int 0])), ((q 8), .inr (7, [.ref (q 36), .ref (q 37), .ref (q 38), .ref (q 39), .int 0, .int 0])), ((q 9), .inr (6, [.int 0, .int 0, .int 0, .ref (q 40), .ref (q 41), .ref (q 42), .ref (q 43)])), ((q 11), .inr (0, [.ref (q 44), .int 0, .int 0])), ((r 1), .inl (kT, 240, .inl fT)), ((r 18), .inl (kU, 2, .inl (fun _ => 0))), ((r 24), .inl (kL, 5, .inl (fun _ => 0))), ((r 32), .inl (kN, 208, .inl (fun _ => 0)))] := hD
  refine W.widen (k := 335) (n := 33214) (Nat.le_of_ble_eq_true rfl) (Nat.le_of_ble_eq_true rfl) ?_
  obtain rfl : r_6 = (-1) := hw
  refine lv_icmp_eq (tgt := 1629) hx hb dL_law_1153 (by decide) (fun c_7 => ?_) (fun c_7 => absurd (by decide) c_7)
  exact lc_exit C0 hS (by decide) (by decide) ls (lv_sub hl [0, 4] rfl)
set_option maxHeartbeats 4000000 in
set_option maxRecDepth 100000 in
theorem lc_27 {p : Program} {l : Launch} {e : Env} {s : State} {m : MethodId} {below : List Frame} {meth : Method} {c : Code} {b : Nat} {xs : Nat → Int32} {H : Heap} {locs : List Loc} {ls : Array Slot} {dC : Nat → ClassId} {dI : Nat → Nat → Nat} {sk sv : Nat → Nat} {s2 tz s3 : Nat} (q r : Nat → Nat) (kB : ClassId) (kR : ClassId) (kT : ClassId) (kU : ClassId) (kL : ClassId) (kN : ClassId) (fB fT : Nat → Int32) (qo : Nat) (hlt : l.stackTraces = false) (C0 : lw_At p s m meth c b 6 xs) (hG : gxP s) (hE : exP sk sv s2 tz (fun q : Nat => s.heap.size ≤ q) s s.heap) (hT : tP s3 (fun q : Nat => s.heap.size ≤ q) s s.heap) (hK : va_K (dC, dI) vwCl [(kB, .int), (kR, .int), (kT, .byte), (kU, .int), (kL, .int), (kN, .int)] s) (hP : va_P (dC, dI) vwCl [((q 15), .inr (11, xF q 0 1)), ((q 0), .inr (8, [.ref (q 16), .int 0, .int 0, .int 0])), ((q 16), .inl (kB, 240, .inl fB)), ((q 1), .inr (5, [.int 0, .int 0, .int 0, .int 0, .ref (q 20), .ref (q 21), .ref (q 22), .ref (q 23)])), ((q 2), .inr (5, [.int 0, .int 0, .int 0, .int 0, .ref (q 24), .ref (q 25), .ref (q 26), .ref (q 27)])), ((q 24), .inl (kR, 2, .inl (fun _ => 0))), ((q 3), .inr (2, [.ref (q 0), .ref (q 28), .int 0])), ((q 4), .inr (3, [.ref (q 30), .ref (q 31), .ref (q 32), .int 0, .int 0, .int (-1), .int 0, .int 0, .int 0, .int 0, .int 0, .int 0])), ((q 5), .inr (9, [.ref (q 33), .ref (q 34), .ref (q 35), .int 0, .int 0])), ((q 8), .inr (7, [.ref (q 36), .ref (q 37), .ref (q 38), .ref (q 39), .int 0, .int 0])), ((q 9), .inr (6, [.int 0, .int 0, .int 0, .ref (q 40), .ref (q 41), .ref (q 42), .ref (q 43)])), ((q 11), .inr (0, [.ref (q 44), .int 0, .int 0])), ((r 100), .inr (12, mF r 0 0 0 0 0 0 0 0 0 0 0 0 0 (-1) 1)), ((r 1), .inl (kT, 240, .inl fT)), ((r 18), .inl (kU, 2, .inl (fun _ => 0))), ((r 24), .inl (kL, 5, .inl (fun _ => 0))), ((r 32), .inl (kN, 208, .inl (fun _ => 0)))] H) (hD : va_D (fun q : Nat => s.heap.size ≤ q) [((q 15), .inr (11, xF q 0 1)), ((q 0), .inr (8, [.ref (q 16), .int 0, .int 0, .int 0])), ((q 16), .inl (kB, 240, .inl fB)), ((q 1), .inr (5, [.int 0, .int 0, .int 0, .int 0, .ref (q 20), .ref (q 21), .ref (q 22), .ref (q 23)])), ((q 2), .inr (5, [.int 0, .int 0, .int 0, .int 0, .ref (q 24), .ref (q 25), .ref (q 26), .ref (q 27)])), ((q 24), .inl (kR, 2, .inl (fun _ => 0))), ((q 3), .inr (2, [.ref (q 0), .ref (q 28), .int 0])), ((q 4), .inr (3, [.ref (q 30), .ref (q 31), .ref (q 32), .int 0, .int 0, .int (-1), .int 0, .int 0, .int 0, .int 0, .int 0, .int 0])), ((q 5), .inr (9, [.ref (q 33), .ref (q 34), .ref (q 35), .int 0, .int 0])), ((q 8), .inr (7, [.ref (q 36), .ref (q 37), .ref (q 38), .ref (q 39), .int 0, .int 0])), ((q 9), .inr (6, [.int 0, .int 0, .int 0, .ref (q 40), .ref (q 41), .ref (q 42), .ref (q 43)])), ((q 11), .inr (0, [.ref (q 44), .int 0, .int 0])), ((r 100), .inr (12, mF r 0 0 0 0 0 0 0 0 0 0 0 0 0 (-1) 1)), ((r 1), .inl (kT, 240, .inl fT)), ((r 18), .inl (kU, 2, .inl (fun _ => 0))), ((r 24), .inl (kL, 5, .inl (fun _ => 0))), ((r 32), .inl (kN, 208, .inl (fun _ => 0)))]) (hS : va_S (fun q : Nat => s.heap.size ≤ q) s.heap H locs) (hl : lv_has ls 7 [(0, .ref b), (1, .ref (q 15)), (2, .ref (r 100)), (3, .ref qo), (4, .int 0)]) : W p l e room_1 s m #[Value.ref b] below meth c H locs 335 33214 (lw_Z below #[Value.ref b] s) (F0 m 1158 ls []) := by
  obtain ⟨hx, hb, hr, hml, hown0, hts, hX, hbl, hlocks, hgv⟩ := id C0
  have hown : s.vm.findClass RL = some m.cls := hown0
  have hA : ∀ q : Nat, s.heap.size ≤ q → (fun q : Nat => s.heap.size ≤ q) q := fun _ h => h
  have hbA : ¬ (fun q : Nat => s.heap.size ≤ q) b := Nat.not_le.mpr hbl
  have hiX11 : ∀ w ∈ u_ws RX11 TX11 17, w ∈ lw_tbl := in_X11
  have hiX12 : ∀ w ∈ u_ws RX12 TX12 54, w ∈ lw_tbl := in_X12
  refine lv_aload_n hx hb dL_law_1158 rfl (lv_at hl 1 rfl) ?_
  have hPc := hP.sub (ws' := [((q 15), .inr (11, xF q 0 1)), ((q 1), .inr (5, [.int 0, .int 0, .int 0, .int 0, .ref (q 20), .ref (q 21), .ref (q 22), .ref (q 23)]))]) [0, 3] rfl
  have hDc := hD.sub (ws' := [((q 15), .inr (11, xF q 0 1)), ((q 1), .inr (5, [.int 0, .int 0, .int 0, .int 0, .ref (q 20), .ref (q 21), .ref (q 22), .ref (q 23)]))]) [0, 3] (by decide) rfl
  have hKc := hK.sub (tys' := []) [] rfl
  have hFc := va_free (wc := [((q 15), .inr (11, xF q 0 1)), ((q 1), .inr (5, [.int 0, .int 0, .int 0, .int 0, .ref (q 20), .ref (q 21), .ref (q 22), .ref (q 23)]))]) hD hS hA [0, 3] rfl
  refine va_calli (va_runV (As := []) (rest := []) ⟨hx, hb, hml, hown, hts⟩ (f_X11_ask l dC dI H.size q ) (cwV 0 hts g_f_L_law_f_X11_ask rfl rfl rfl (by decide +kernel) ⟨Nat.le_of_ble_eq_true rfl, Nat.le_of_ble_eq_true rfl⟩) ⟨cW_blind, va_recv hKc hPc (ci := 11) (q0 := 0) rfl rfl, fun U hU hW => ⟨rfl, cW_use hU hW hPc hKc hDc hG⟩⟩ rfl rfl hl.1 rfl (lv_room (Nat.le_of_ble_eq_true rfl)) dL_law_1159 ⟨Nat.le_of_ble_eq_true rfl, Nat.le_of_ble_eq_true rfl⟩) hS (fun q _ h => hFc q h) hFc (fun r_1 u t H1 locs ht hvm hw hB hz1 hk1 hS => ?_)
  obtain ⟨hP, hD⟩ := va_join (wr := [((q 0), .inr (8, [.ref (q 16), .int 0, .int 0, .int 0])), ((q 16), .inl (kB, 240, .inl fB)), ((q 2), .inr (5, [.int 0, .int 0, .int 0, .int 0, .ref (q 24), .ref (q 25), .ref (q 26), .ref (q 27)])), ((q 24), .inl (kR, 2, .inl (fun _ => 0))), ((q 3), .inr (2, [.ref (q 0), .ref (q 28), .int 0])), ((q 4), .inr (3, [.ref (q 30), .ref (q 31), .ref (q 32), .int 0, .int 0, .int (-1), .int 0, .int 0, .int 0, .int 0, .int 0, .int 0])), ((q 5), .inr (9, [.ref (q 33), .ref (q 34), .ref (q 35), .int 0, .int 0])), ((q 8), .inr (7, [.ref (q 36), .ref (q 37), .ref (q 38), .ref (q 39), .int 0, .int 0])), ((q 9), .inr (6, [.int 0, .int 0, .int 0, .ref (q 40), .ref (q 41), .ref (q 42), .ref (q 43)])), ((q 11), .inr (0, [.ref (q 44), .int 0, .int 0])), ((r 100), .inr (12, mF r 0 0 0 0 0 0 0 0 0 0 0 0 0 (-1) 1)), ((r 1), .inl (kT, 240, .inl fT)), ((r 18), .inl (kU, 2, .inl (fun _ => 0))), ((r 24), .inl (kL, 5, .inl (fun _ => 0))), ((r 32), .inl (kN, 208, .inl (fun _ => 0)))]) (w1 := []) hP hD [0, 3] [1, 2, 4, 5, 6, 7, 8, 9, 10, 11, 12, 13, 14, 15, 16] rfl rfl (by decide) (by decide) hk1 hFc (va_P_nil H1) va_D_nil
  generalize H1 = H at hP hS ⊢
  have hP : va_P (dC, dI) vwCl [((q 0), .inr (8, [.ref (q 16), .int 0, .int 0, .int 0])), ((q 16), .inl (kB, 240, .inl fB)), ((q 2), .inr (5, [.int 0, .int 0, .int 0, .int 0, .ref (q 24), .ref (q 25), .ref (q 26), .ref (q 27)])), ((q 24), .inl (kR, 2, .inl (fun _ => 0))), ((q 3), .inr (2, [.ref (q 0), .ref (q 28), .int 0])), ((q 4), .inr (3, [.ref (q 30), .ref (q 31), .ref (q 32), .int 0, .int 0, .int (-1), .int 0, .int 0, .int 0, .int 0, .int 0, .int 0])), ((q 5), .inr (9, [.ref (q 33), .ref (q 34), .ref (q 35), .int 0, .int 0])), ((q 8), .inr (7, [.ref (q 36), .ref (q 37), .ref (q 38), .ref (q 39), .int 0, .int 0])), ((q 9), .inr (6, [.int 0, .int 0, .int 0, .ref (q 40), .ref (q 41), .ref (q 42), .ref (q 43)])), ((q 11), .inr (0, [.ref (q 44), .int 0, .int 0])), ((r 100), .inr (12, mF r 0 0 0 0 0 0 0 0 0 0 0 0 0 (-1) 1)), ((r 1), .inl (kT, 240, .inl fT)), ((r 18), .inl (kU, 2, .inl (fun _ => 0))), ((r 24), .inl (kL, 5, .inl (fun _ => 0))), ((r 32), .inl (kN, 208, .inl (fun _ => 0)))] H := hP
  have hD : va_D (fun q : Nat => s.heap.size ≤ q) [((q 0), .inr (8, [.ref (q 16), .int 0, .int 0, .int 0])), ((q 16), .inl (kB, 240, .inl fB)), ((q 2), .inr (5, [.int 0, .int 0, .int 0, .int 0, .ref (q 24), .ref (q 25), .ref (q 26), .ref (q 27)])), ((q 24), .inl (kR, 2, .inl (fun _ => 0))), ((q 3), .inr (2, [.ref (q 0), .ref (q 28), .int 0])), ((q 4), .inr (3, [.ref (q 30), .ref (q 31), .ref (q 32), .int 0, .int 0, .int (-1), .int 0, .int 0, .int 0, .int 0, .int 0, .int 0])), ((q 5), .inr (9, [.ref (q 33), .ref (q 34), .ref (q 35), .int 0, .int 0])), ((q 8), .inr (7, [.ref (q 36), .ref (q 37), .ref (q 38), .ref (q 39), .int 0, .int 0])), ((q 9), .inr (6, [.int 0, .int 0, .int 0, .ref (q 40), .ref (q 41), .ref (q 42), .ref (q 43)])), ((q 11), .inr (0, [.ref (q 44), .int 0, .int 0])), ((r 100), .inr (12, mF r 0 0 0 0 0 0 0 0 0 0 0 0 0 (-1) 1)), ((r 1), .inl (kT, 240, .inl fT)), ((r 18), .inl (kU, 2, .inl (fun _ => 0))), ((r 24), .inl (kL, 5, .inl (fun _ => 0))), ((r 32), .inl (kN, 208, .inl (fun _ => 0)))] := hD
  refine W.widen (k := 335) (n := 33214) (Nat.le_of_ble_eq_true rfl) (Nat.le_of_ble_eq_true rfl) ?_
  obtain rfl : r_1 = (-1) := hw
  refine lv_aload_n hx hb dL_law_1162 rfl (lv_at hl 2 rfl) ?_
  have hPc := hP.sub (ws' := [((r 100), .inr (12, mF r 0 0 0 0 0 0 0 0 0 0 0 0 0 (-1) 1))]) [10] rfl
  have hDc := hD.sub (ws' := [((r 100), .inr (12, mF r 0 0 0 0 0 0 0 0 0 0 0 0 0 (-1) 1))]) [10] (by decide) rfl
  have hKc := hK.sub (tys' := []) [] rfl
  have hFc := va_free (wc := [((r 100), .inr (12, mF r 0 0 0 0 0 0 0 0 0 0 0 0 0 (-1) 1))]) hD hS hA [10] rfl
  refine va_calli (va_runV (As := []) (rest := [.int (-1)]) ⟨hx, hb, hml, hown, hts⟩ (f_X12_ask l dC dI H.size r ) (cwV 0 hts g_f_L_law_f_X12_ask rfl rfl rfl (by decide +kernel) ⟨Nat.le_of_ble_eq_true rfl, Nat.le_of_ble_eq_true rfl⟩) ⟨cW_blind, va_recv hKc hPc (ci := 12) (q0 := 0) rfl rfl, fun U hU hW => ⟨rfl, cW_use hU hW hPc hKc hDc hG⟩⟩ rfl rfl hl.1 rfl (lv_room (Nat.le_of_ble_eq_true rfl)) dL_law_1163 ⟨Nat.le_of_ble_eq_true rfl, Nat.le_of_ble_eq_true rfl⟩) hS (fun q _ h => hFc q h) hFc (fun r_2 u t H1 locs ht hvm hw hB hz1 hk1 hS => ?_)
  obtain ⟨hP, hD⟩ := va_join (wr := [((q 0), .inr (8, [.ref (q 16), .int 0, .int 0, .int 0])), ((q 16), .inl (kB, 240, .inl fB)), ((q 2), .inr (5, [.int 0, .int 0, .int 0, .int 0, .ref (q 24), .ref (q 25), .ref (q 26), .ref (q 27)])), ((q 24), .inl (kR, 2, .inl (fun _ => 0))), ((q 3), .inr (2, [.ref (q 0), .ref (q 28), .int 0])), ((q 4), .inr (3, [.ref (q 30), .ref (q 31), .ref (q 32), .int 0, .int 0, .int (-1), .int 0, .int 0, .int 0, .int 0, .int 0, .int 0])), ((q 5), .inr (9, [.ref (q 33), .ref (q 34), .ref (q 35), .int 0, .int 0])), ((q 8), .inr (7, [.ref (q 36), .ref (q 37), .ref (q 38), .ref (q 39), .int 0, .int 0])), ((q 9), .inr (6, [.int 0, .int 0, .int 0, .ref (q 40), .ref (q 41), .ref (q 42), .ref (q 43)])), ((q 11), .inr (0, [.ref (q 44), .int 0, .int 0])), ((r 1), .inl (kT, 240, .inl fT)), ((r 18), .inl (kU, 2, .inl (fun _ => 0))), ((r 24), .inl (kL, 5, .inl (fun _ => 0))), ((r 32), .inl (kN, 208, .inl (fun _ => 0)))]) (w1 := []) hP hD [10] [0, 1, 2, 3, 4, 5, 6, 7, 8, 9, 11, 12, 13, 14] rfl rfl (by decide) (by decide) hk1 hFc (va_P_nil H1) va_D_nil
  generalize H1 = H at hP hS ⊢
  have hP : va_P (dC, dI) vwCl [((q 0), .inr (8, [.ref (q 16), .int 0, .int 0, .int 0])), ((q 16), .inl (kB, 240, .inl fB)), ((q 2), .inr (5, [.int 0, .int 0, .int 0, .int 0, .ref (q 24), .ref (q 25), .ref (q 26), .ref (q 27)])), ((q 24), .inl (kR, 2, .inl (fun _ => 0))), ((q 3), .inr (2, [.ref (q 0), .ref (q 28), .int 0])), ((q 4), .inr (3, [.ref (q 30), .ref (q 31), .ref (q 32), .int 0, .int 0, .int (-1), .int 0, .int 0, .int 0, .int 0, .int 0, .int 0])), ((q 5), .inr (9, [.ref (q 33), .ref (q 34), .ref (q 35), .int 0, .int 0])), ((q 8), .inr (7, [.ref (q 36), .ref (q 37), .ref (q 38), .ref (q 39), .int 0, .int 0])), ((q 9), .inr (6, [.int 0, .int 0, .int 0, .ref (q 40), .ref (q 41), .ref (q 42), .ref (q 43)])), ((q 11), .inr (0, [.ref (q 44), .int 0, .int 0])), ((r 1), .inl (kT, 240, .inl fT)), ((r 18), .inl (kU, 2, .inl (fun _ => 0))), ((r 24), .inl (kL, 5, .inl (fun _ => 0))), ((r 32), .inl (kN, 208, .inl (fun _ => 0)))] H := hP
  have hD : va_D (fun q : Nat => s.heap.size ≤ q) [((q 0), .inr (8, [.ref (q 16), .int 0, .int 0, .int 0])), ((q 16), .inl (kB, 240, .inl fB)), ((q 2), .inr (5, [.int 0, .int 0, .int 0, .int 0, .ref (q 24), .ref (q 25), .ref (q 26), .ref (q 27)])), ((q 24), .inl (kR, 2, .inl (fun _ => 0))), ((q 3), .inr (2, [.ref (q 0), .ref (q 28), .int 0])), ((q 4), .inr (3, [.ref (q 30), .ref (q 31), .ref (q 32), .int 0, .int 0, .int (-1), .int 0, .int 0, .int 0, .int 0, .int 0, .int 0])), ((q 5), .inr (9, [.ref (q 33), .ref (q 34), .ref (q 35), .int 0, .int 0])), ((q 8), .inr (7, [.ref (q 36), .ref (q 37), .ref (q 38), .ref (q 39), .int 0, .int 0])), ((q 9), .inr (6, [.int 0, .int 0, .int 0, .ref (q 40), .ref (q 41), .ref (q 42), .ref (q 43)])), ((q 11), .inr (0, [.ref (q 44), .int 0, .int 0])), ((r 1), .inl (kT, 240, .inl fT)), ((r 18), .inl (kU, 2, .inl (fun _ => 0))), ((r 24), .inl (kL, 5, .inl (fun _ => 0))), ((r 32), .inl (kN, 208, .inl (fun _ => 0)))] := hD
  refine W.widen (k := 335) (n := 33214) (Nat.le_of_ble_eq_true rfl) (Nat.le_of_ble_eq_true rfl) ?_
  obtain rfl : r_2 = (-1) := hw
  refine lv_icmp_eq (tgt := 1629) hx hb dL_law_1166 (by decide) (fun c_3 => ?_) (fun c_3 => absurd (by decide) c_3)
  exact lc_exit C0 hS (by decide) (by decide) ls (lv_sub hl [0, 4] rfl)
set_option maxHeartbeats 4000000 in
set_option maxRecDepth 100000 in
theorem lc_28 {p : Program} {l : Launch} {e : Env} {s : State} {m : MethodId} {below : List Frame} {meth : Method} {c : Code} {b : Nat} {xs : Nat → Int32} {H : Heap} {locs : List Loc} {ls : Array Slot} {dC : Nat → ClassId} {dI : Nat → Nat → Nat} {sk sv : Nat → Nat} {s2 tz s3 : Nat} (q r : Nat → Nat) (kB : ClassId) (kR : ClassId) (kT : ClassId) (kU : ClassId) (kL : ClassId) (kN : ClassId) (fB fT : Nat → Int32) (qo : Nat) (hlt : l.stackTraces = false) (C0 : lw_At p s m meth c b 6 xs) (hG : gxP s) (hE : exP sk sv s2 tz (fun q : Nat => s.heap.size ≤ q) s s.heap) (hT : tP s3 (fun q : Nat => s.heap.size ≤ q) s s.heap) (hK : va_K (dC, dI) vwCl [(kB, .int), (kR, .int), (kT, .byte), (kU, .int), (kL, .int), (kN, .int)] s) (hP : va_P (dC, dI) vwCl [((q 15), .inr (11, xF q 0 1)), ((q 0), .inr (8, [.ref (q 16), .int 0, .int 0, .int 0])), ((q 16), .inl (kB, 240, .inl fB)), ((q 1), .inr (5, [.int 0, .int 0, .int 0, .int 0, .ref (q 20), .ref (q 21), .ref (q 22), .ref (q 23)])), ((q 2), .inr (5, [.int 0, .int 0, .int 0, .int 0, .ref (q 24), .ref (q 25), .ref (q 26), .ref (q 27)])), ((q 24), .inl (kR, 2, .inl (fun _ => 0))), ((q 3), .inr (2, [.ref (q 0), .ref (q 28), .int 0])), ((q 4), .inr (3, [.ref (q 30), .ref (q 31), .ref (q 32), .int 0, .int 0, .int (-1), .int 0, .int 0, .int 0, .int 0, .int 0, .int 0])), ((q 5), .inr (9, [.ref (q 33), .ref (q 34), .ref (q 35), .int 0, .int 0])), ((q 8), .inr (7, [.ref (q 36), .ref (q 37), .ref (q 38), .ref (q 39), .int 0, .int 0])), ((q 9), .inr (6, [.int 0, .int 0, .int 0, .ref (q 40), .ref (q 41), .ref (q 42), .ref (q 43)])), ((q 11), .inr (0, [.ref (q 44), .int 0, .int 0])), ((r 100), .inr (12, mF r 0 0 0 0 0 0 0 0 0 0 0 0 0 (-1) 1)), ((r 1), .inl (kT, 240, .inl fT)), ((r 18), .inl (kU, 2, .inl (fun _ => 0))), ((r 24), .inl (kL, 5, .inl (fun _ => 0))), ((r 32), .inl (kN, 208, .inl (fun _ => 0)))] H) (hD : va_D (fun q : Nat => s.heap.size ≤ q) [((q 15), .inr (11, xF q 0 1)), ((q 0), .inr (8, [.ref (q 16), .int 0, .int 0, .int 0])), ((q 16), .inl (kB, 240, .inl fB)), ((q 1), .inr (5, [.int 0, .int 0, .int 0, .int 0, .ref (q 20), .ref (q 21), .ref (q 22), .ref (q 23)])), ((q 2), .inr (5, [.int 0, .int 0, .int 0, .int 0, .ref (q 24), .ref (q 25), .ref (q 26), .ref (q 27)])), ((q 24), .inl (kR, 2, .inl (fun _ => 0))), ((q 3), .inr (2, [.ref (q 0), .ref (q 28), .int 0])), ((q 4), .inr (3, [.ref (q 30), .ref (q 31), .ref (q 32), .int 0, .int 0, .int (-1), .int 0, .int 0, .int 0, .int 0, .int 0, .int 0])), ((q 5), .inr (9, [.ref (q 33), .ref (q 34), .ref (q 35), .int 0, .int 0])), ((q 8), .inr (7, [.ref (q 36), .ref (q 37), .ref (q 38), .ref (q 39), .int 0, .int 0])), ((q 9), .inr (6, [.int 0, .int 0, .int 0, .ref (q 40), .ref (q 41), .ref (q 42), .ref (q 43)])), ((q 11), .inr (0, [.ref (q 44), .int 0, .int 0])), ((r 100), .inr (12, mF r 0 0 0 0 0 0 0 0 0 0 0 0 0 (-1) 1)), ((r 1), .inl (kT, 240, .inl fT)), ((r 18), .inl (kU, 2, .inl (fun _ => 0))), ((r 24), .inl (kL, 5, .inl (fun _ => 0))), ((r 32), .inl (kN, 208, .inl (fun _ => 0)))]) (hS : va_S (fun q : Nat => s.heap.size ≤ q) s.heap H locs) (hl : lv_has ls 7 [(0, .ref b), (1, .ref (q 15)), (2, .ref (r 100)), (3, .ref qo), (4, .int 0)]) : W p l e room_1 s m #[Value.ref b] below meth c H locs 335 33214 (lw_Z below #[Value.ref b] s) (F0 m 1171 ls []) := by
  obtain ⟨hx, hb, hr, hml, hown0, hts, hX, hbl, hlocks, hgv⟩ := id C0
  have hown : s.vm.findClass RL = some m.cls := hown0
  have hA : ∀ q : Nat, s.heap.size ≤ q → (fun q : Nat => s.heap.size ≤ q) q := fun _ h => h
  have hbA : ¬ (fun q : Nat => s.heap.size ≤ q) b := Nat.not_le.mpr hbl
  have hiX11 : ∀ w ∈ u_ws RX11 TX11 17, w ∈ lw_tbl := in_X11
  have hiX12 : ∀ w ∈ u_ws RX12 TX12 54, w ∈ lw_tbl := in_X12
  refine lv_aload_n hx hb dL_law_1171 rfl (lv_at hl 1 rfl) ?_
  refine lv_aload_n hx hb dL_law_1172 rfl (lv_at hl 0 rfl) ?_
  refine lv_iload hx hb dL_law_1173 (lv_at hl 4 rfl) ?_
  refine lv_iconst (v := 1) hx hb dL_law_1175 (by decide) ?_
  refine lv_iadd hx hb dL_law_1176 ?_
  refine lv_topi (fun v_1 e_1 => ?_)
  obtain rfl : v_1 = 1 := by rw [e_1]; decide
  refine va_sld hx hb hX hbl hbA hS (i := 1) (vp_in_nI (n := 1) (by decide) (by decide)) dL_law_1177 ?_
  refine lv_topi (fun v_2 e_2 => ?_)
  obtain rfl : v_2 = xs 1 := by rw [e_2]; exact congrArg xs (by decide)
  have hPc := hP.sub (ws' := [((q 15), .inr (11, xF q 0 1)), ((q 1), .inr (5, [.int 0, .int 0, .int 0, .int 0, .ref (q 20), .ref (q 21), .ref (q 22), .ref (q 23)]))]) [0, 3] rfl
  have hDc := hD.sub (ws' := [((q 15), .inr (11, xF q 0 1)), ((q 1), .inr (5, [.int 0, .int 0, .int 0, .int 0, .ref (q 20), .ref (q 21), .ref (q 22), .ref (q 23)]))]) [0, 3] (by decide) rfl
  have hKc := hK.sub (tys' := []) [] rfl
  have hFc := va_free (wc := [((q 15), .inr (11, xF q 0 1)), ((q 1), .inr (5, [.int 0, .int 0, .int 0, .int 0, .ref (q 20), .ref (q 21), .ref (q 22), .ref (q 23)]))]) hD hS hA [0, 3] rfl
  refine va_calli (va_runV (As := [.int (xs 1)]) (rest := []) ⟨hx, hb, hml, hown, hts⟩ (f_X11_walls l dC dI H.size q ((xs 1))) (cwV 1 hts g_f_L_law_f_X11_walls rfl rfl rfl (by decide +kernel) ⟨Nat.le_of_ble_eq_true rfl, Nat.le_of_ble_eq_true rfl⟩) ⟨cW_blind, va_recv hKc hPc (ci := 11) (q0 := 0) rfl rfl, fun U hU hW => ⟨rfl, cW_use hU hW hPc hKc hDc hG⟩⟩ rfl rfl hl.1 rfl (lv_room (Nat.le_of_ble_eq_true rfl)) dL_law_1178 ⟨Nat.le_of_ble_eq_true rfl, Nat.le_of_ble_eq_true rfl⟩) hS (fun q _ h => hFc q h) hFc (fun r_3 u t H1 locs ht hvm hw hB hz1 hk1 hS => ?_)
  obtain ⟨hP, hD⟩ := va_join (wr := [((q 0), .inr (8, [.ref (q 16), .int 0, .int 0, .int 0])), ((q 16), .inl (kB, 240, .inl fB)), ((q 2), .inr (5, [.int 0, .int 0, .int 0, .int 0, .ref (q 24), .ref (q 25), .ref (q 26), .ref (q 27)])), ((q 24), .inl (kR, 2, .inl (fun _ => 0))), ((q 3), .inr (2, [.ref (q 0), .ref (q 28), .int 0])), ((q 4), .inr (3, [.ref (q 30), .ref (q 31), .ref (q 32), .int 0, .int 0, .int (-1), .int 0, .int 0, .int 0, .int 0, .int 0, .int 0])), ((q 5), .inr (9, [.ref (q 33), .ref (q 34), .ref (q 35), .int 0, .int 0])), ((q 8), .inr (7, [.ref (q 36), .ref (q 37), .ref (q 38), .ref (q 39), .int 0, .int 0])), ((q 9), .inr (6, [.int 0, .int 0, .int 0, .ref (q 40), .ref (q 41), .ref (q 42), .ref (q 43)])), ((q 11), .inr (0, [.ref (q 44), .int 0, .int 0])), ((r 100), .inr (12, mF r 0 0 0 0 0 0 0 0 0 0 0 0 0 (-1) 1)), ((r 1), .inl (kT, 240, .inl fT)), ((r 18), .inl (kU, 2, .inl (fun _ => 0))), ((r 24), .inl (kL, 5, .inl (fun _ => 0))), ((r 32), .inl (kN, 208, .inl (fun _ => 0)))]) (w1 := []) hP hD [0, 3] [1, 2, 4, 5, 6, 7, 8, 9, 10, 11, 12, 13, 14, 15, 16] rfl rfl (by decide) (by decide) hk1 hFc (va_P_nil H1) va_D_nil
  generalize H1 = H at hP hS ⊢
  have hP : va_P (dC, dI) vwCl [((q 0), .inr (8, [.ref (q 16), .int 0, .int 0, .int 0])), ((q 16), .inl (kB, 240, .inl fB)), ((q 2), .inr (5, [.int 0, .int 0, .int 0, .int 0, .ref (q 24), .ref (q 25), .ref (q 26), .ref (q 27)])), ((q 24), .inl (kR, 2, .inl (fun _ => 0))), ((q 3), .inr (2, [.ref (q 0), .ref (q 28), .int 0])), ((q 4), .inr (3, [.ref (q 30), .ref (q 31), .ref (q 32), .int 0, .int 0, .int (-1), .int 0, .int 0, .int 0, .int 0, .int 0, .int 0])), ((q 5), .inr (9, [.ref (q 33), .ref (q 34), .ref (q 35), .int 0, .int 0])), ((q 8), .inr (7, [.ref (q 36), .ref (q 37), .ref (q 38), .ref (q 39), .int 0, .int 0])), ((q 9), .inr (6, [.int 0, .int 0, .int 0, .ref (q 40), .ref (q 41), .ref (q 42), .ref (q 43)])), ((q 11), .inr (0, [.ref (q 44), .int 0, .int 0])), ((r 100), .inr (12, mF r 0 0 0 0 0 0 0 0 0 0 0 0 0 (-1) 1)), ((r 1), .inl (kT, 240, .inl fT)), ((r 18), .inl (kU, 2, .inl (fun _ => 0))), ((r 24), .inl (kL, 5, .inl (fun _ => 0))), ((r 32), .inl (kN, 208, .inl (fun _ => 0)))] H := hP
  have hD : va_D (fun q : Nat => s.heap.size ≤ q) [((q 0), .inr (8, [.ref (q 16), .int 0, .int 0, .int 0])), ((q 16), .inl (kB, 240, .inl fB)), ((q 2), .inr (5, [.int 0, .int 0, .int 0, .int 0, .ref (q 24), .ref (q 25), .ref (q 26), .ref (q 27)])), ((q 24), .inl (kR, 2, .inl (fun _ => 0))), ((q 3), .inr (2, [.ref (q 0), .ref (q 28), .int 0])), ((q 4), .inr (3, [.ref (q 30), .ref (q 31), .ref (q 32), .int 0, .int 0, .int (-1), .int 0, .int 0, .int 0, .int 0, .int 0, .int 0])), ((q 5), .inr (9, [.ref (q 33), .ref (q 34), .ref (q 35), .int 0, .int 0])), ((q 8), .inr (7, [.ref (q 36), .ref (q 37), .ref (q 38), .ref (q 39), .int 0, .int 0])), ((q 9), .inr (6, [.int 0, .int 0, .int 0, .ref (q 40), .ref (q 41), .ref (q 42), .ref (q 43)])), ((q 11), .inr (0, [.ref (q 44), .int 0, .int 0])), ((r 100), .inr (12, mF r 0 0 0 0 0 0 0 0 0 0 0 0 0 (-1) 1)), ((r 1), .inl (kT, 240, .inl fT)), ((r 18), .inl (kU, 2, .inl (fun _ => 0))), ((r 24), .inl (kL, 5, .inl (fun _ => 0))), ((r 32), .inl (kN, 208, .inl (fun _ => 0)))] := hD
  refine W.widen (k := 335) (n := 33214) (Nat.le_of_ble_eq_true rfl) (Nat.le_of_ble_eq_true rfl) ?_
  obtain rfl : r_3 = (-1) := hw
  refine lv_aload_n hx hb dL_law_1181 rfl (lv_at hl 2 rfl) ?_
  refine lv_aload_n hx hb dL_law_1182 rfl (lv_at hl 0 rfl) ?_
  refine lv_iload hx hb dL_law_1183 (lv_at hl 4 rfl) ?_
  refine lv_iconst (v := 1) hx hb dL_law_1185 (by decide) ?_
  refine lv_iadd hx hb dL_law_1186 ?_
  refine lv_topi (fun v_4 e_4 => ?_)
  obtain rfl : v_4 = 1 := by rw [e_4]; decide
  refine va_sld hx hb hX hbl hbA hS (i := 1) (vp_in_nI (n := 1) (by decide) (by decide)) dL_law_1187 ?_
  refine lv_topi (fun v_5 e_5 => ?_)
  obtain rfl : v_5 = xs 1 := by rw [e_5]; exact congrArg xs (by decide)
  have hPc := hP.sub (ws' := [((r 100), .inr (12, mF r 0 0 0 0 0 0 0 0 0 0 0 0 0 (-1) 1))]) [10] rfl
  have hDc := hD.sub (ws' := [((r 100), .inr (12, mF r 0 0 0 0 0 0 0 0 0 0 0 0 0 (-1) 1))]) [10] (by decide) rfl
  have hKc := hK.sub (tys' := []) [] rfl
  have hFc := va_free (wc := [((r 100), .inr (12, mF r 0 0 0 0 0 0 0 0 0 0 0 0 0 (-1) 1))]) hD hS hA [10] rfl
  refine va_calli (va_runV (As := [.int (xs 1)]) (rest := [.int (-1)]) ⟨hx, hb, hml, hown, hts⟩ (f_X12_walls l dC dI H.size r ((xs 1))) (cwV 1 hts g_f_L_law_f_X12_walls rfl rfl rfl (by decide +kernel) ⟨Nat.le_of_ble_eq_true rfl, Nat.le_of_ble_eq_true rfl⟩) ⟨cW_blind, va_recv hKc hPc (ci := 12) (q0 := 0) rfl rfl, fun U hU hW => ⟨rfl, cW_use hU hW hPc hKc hDc hG⟩⟩ rfl rfl hl.1 rfl (lv_room (Nat.le_of_ble_eq_true rfl)) dL_law_1188 ⟨Nat.le_of_ble_eq_true rfl, Nat.le_of_ble_eq_true rfl⟩) hS (fun q _ h => hFc q h) hFc (fun r_6 u t H1 locs ht hvm hw hB hz1 hk1 hS => ?_)
  obtain ⟨hP, hD⟩ := va_join (wr := [((q 0), .inr (8, [.ref (q 16), .int 0, .int 0, .int 0])), ((q 16), .inl (kB, 240, .inl fB)), ((q 2), .inr (5, [.int 0, .int 0, .int 0, .int 0, .ref (q 24), .ref (q 25), .ref (q 26), .ref (q 27)])), ((q 24), .inl (kR, 2, .inl (fun _ => 0))), ((q 3), .inr (2, [.ref (q 0), .ref (q 28), .int 0])), ((q 4), .inr (3, [.ref (q 30), .ref (q 31), .ref (q 32), .int 0, .int 0, .int (-1), .int 0, .int 0, .int 0, .int 0, .int 0, .int 0])), ((q 5), .inr (9, [.ref (q 33), .ref (q 34), .ref (q 35), .int 0, .int 0])), ((q 8), .inr (7, [.ref (q 36), .ref (q 37), .ref (q 38), .ref (q 39), .int 0, .int 0])), ((q 9), .inr (6, [.int 0, .int 0, .int 0, .ref (q 40), .ref (q 41), .ref (q 42), .ref (q 43)])), ((q 11), .inr (0, [.ref (q 44), .int 0, .int 0])), ((r 1), .inl (kT, 240, .inl fT)), ((r 18), .inl (kU, 2, .inl (fun _ => 0))), ((r 24), .inl (kL, 5, .inl (fun _ => 0))), ((r 32), .inl (kN, 208, .inl (fun _ => 0)))]) (w1 := []) hP hD [10] [0, 1, 2, 3, 4, 5, 6, 7, 8, 9, 11, 12, 13, 14] rfl rfl (by decide) (by decide) hk1 hFc (va_P_nil H1) va_D_nil
  generalize H1 = H at hP hS ⊢
  have hP : va_P (dC, dI) vwCl [((q 0), .inr (8, [.ref (q 16), .int 0, .int 0, .int 0])), ((q 16), .inl (kB, 240, .inl fB)), ((q 2), .inr (5, [.int 0, .int 0, .int 0, .int 0, .ref (q 24), .ref (q 25), .ref (q 26), .ref (q 27)])), ((q 24), .inl (kR, 2, .inl (fun _ => 0))), ((q 3), .inr (2, [.ref (q 0), .ref (q 28), .int 0])), ((q 4), .inr (3, [.ref (q 30), .ref (q 31), .ref (q 32), .int 0, .int 0, .int (-1), .int 0, .int 0, .int 0, .int 0, .int 0, .int 0])), ((q 5), .inr (9, [.ref (q 33), .ref (q 34), .ref (q 35), .int 0, .int 0])), ((q 8), .inr (7, [.ref (q 36), .ref (q 37), .ref (q 38), .ref (q 39), .int 0, .int 0])), ((q 9), .inr (6, [.int 0, .int 0, .int 0, .ref (q 40), .ref (q 41), .ref (q 42), .ref (q 43)])), ((q 11), .inr (0, [.ref (q 44), .int 0, .int 0])), ((r 1), .inl (kT, 240, .inl fT)), ((r 18), .inl (kU, 2, .inl (fun _ => 0))), ((r 24), .inl (kL, 5, .inl (fun _ => 0))), ((r 32), .inl (kN, 208, .inl (fun _ => 0)))] H := hP
  have hD : va_D (fun q : Nat => s.heap.size ≤ q) [((q 0), .inr (8, [.ref (q 16), .int 0, .int 0, .int 0])), ((q 16), .inl (kB, 240, .inl fB)), ((q 2), .inr (5, [.int 0, .int 0, .int 0, .int 0, .ref (q 24), .ref (q 25), .ref (q 26), .ref (q 27)])), ((q 24), .inl (kR, 2, .inl (fun _ => 0))), ((q 3), .inr (2, [.ref (q 0), .ref (q 28), .int 0])), ((q 4), .inr (3, [.ref (q 30), .ref (q 31), .ref (q 32), .int 0, .int 0, .int (-1), .int 0, .int 0, .int 0, .int 0, .int 0, .int 0])), ((q 5), .inr (9, [.ref (q 33), .ref (q 34), .ref (q 35), .int 0, .int 0])), ((q 8), .inr (7, [.ref (q 36), .ref (q 37), .ref (q 38), .ref (q 39), .int 0, .int 0])), ((q 9), .inr (6, [.int 0, .int 0, .int 0, .ref (q 40), .ref (q 41), .ref (q 42), .ref (q 43)])), ((q 11), .inr (0, [.ref (q 44), .int 0, .int 0])), ((r 1), .inl (kT, 240, .inl fT)), ((r 18), .inl (kU, 2, .inl (fun _ => 0))), ((r 24), .inl (kL, 5, .inl (fun _ => 0))), ((r 32), .inl (kN, 208, .inl (fun _ => 0)))] := hD
  refine W.widen (k := 335) (n := 33214) (Nat.le_of_ble_eq_true rfl) (Nat.le_of_ble_eq_true rfl) ?_
  obtain rfl : r_6 = (-1) := hw
  refine lv_icmp_eq (tgt := 1629) hx hb dL_law_1191 (by decide) (fun c_7 => ?_) (fun c_7 => absurd (by decide) c_7)
  exact lc_exit C0 hS (by decide) (by decide) ls (lv_sub hl [0, 4] rfl)
set_option maxHeartbeats 4000000 in
set_option maxRecDepth 100000 in
theorem lc_29 {p : Program} {l : Launch} {e : Env} {s : State} {m : MethodId} {below : List Frame} {meth : Method} {c : Code} {b : Nat} {xs : Nat → Int32} {H : Heap} {locs : List Loc} {ls : Array Slot} {dC : Nat → ClassId} {dI : Nat → Nat → Nat} {sk sv : Nat → Nat} {s2 tz s3 : Nat} (q r : Nat → Nat) (kB : ClassId) (kR : ClassId) (kT : ClassId) (kU : ClassId) (kL : ClassId) (kN : ClassId) (fB fT : Nat → Int32) (qo : Nat) (hlt : l.stackTraces = false) (C0 : lw_At p s m meth c b 6 xs) (hG : gxP s) (hE : exP sk sv s2 tz (fun q : Nat => s.heap.size ≤ q) s s.heap) (hT : tP s3 (fun q : Nat => s.heap.size ≤ q) s s.heap) (hK : va_K (dC, dI) vwCl [(kB, .int), (kR, .int), (kT, .byte), (kU, .int), (kL, .int), (kN, .int)] s) (hP : va_P (dC, dI) vwCl [((q 15), .inr (11, xF q 0 1)), ((q 0), .inr (8, [.ref (q 16), .int 0, .int 0, .int 0])), ((q 16), .inl (kB, 240, .inl fB)), ((q 1), .inr (5, [.int 0, .int 0, .int 0, .int 0, .ref (q 20), .ref (q 21), .ref (q 22), .ref (q 23)])), ((q 2), .inr (5, [.int 0, .int 0, .int 0, .int 0, .ref (q 24), .ref (q 25), .ref (q 26), .ref (q 27)])), ((q 24), .inl (kR, 2, .inl (fun _ => 0))), ((q 3), .inr (2, [.ref (q 0), .ref (q 28), .int 0])), ((q 4), .inr (3, [.ref (q 30), .ref (q 31), .ref (q 32), .int 0, .int 0, .int (-1), .int 0, .int 0, .int 0, .int 0, .int 0, .int 0])), ((q 5), .inr (9, [.ref (q 33), .ref (q 34), .ref (q 35), .int 0, .int 0])), ((q 8), .inr (7, [.ref (q 36), .ref (q 37), .ref (q 38), .ref (q 39), .int 0, .int 0])), ((q 9), .inr (6, [.int 0, .int 0, .int 0, .ref (q 40), .ref (q 41), .ref (q 42), .ref (q 43)])), ((q 11), .inr (0, [.ref (q 44), .int 0, .int 0])), ((r 100), .inr (12, mF r 0 0 0 0 0 0 0 0 0 0 0 0 0 (-1) 1)), ((r 1), .inl (kT, 240, .inl fT)), ((r 18), .inl (kU, 2, .inl (fun _ => 0))), ((r 24), .inl (kL, 5, .inl (fun _ => 0))), ((r 32), .inl (kN, 208, .inl (fun _ => 0)))] H) (hD : va_D (fun q : Nat => s.heap.size ≤ q) [((q 15), .inr (11, xF q 0 1)), ((q 0), .inr (8, [.ref (q 16), .int 0, .int 0, .int 0])), ((q 16), .inl (kB, 240, .inl fB)), ((q 1), .inr (5, [.int 0, .int 0, .int 0, .int 0, .ref (q 20), .ref (q 21), .ref (q 22), .ref (q 23)])), ((q 2), .inr (5, [.int 0, .int 0, .int 0, .int 0, .ref (q 24), .ref (q 25), .ref (q 26), .ref (q 27)])), ((q 24), .inl (kR, 2, .inl (fun _ => 0))), ((q 3), .inr (2, [.ref (q 0), .ref (q 28), .int 0])), ((q 4), .inr (3, [.ref (q 30), .ref (q 31), .ref (q 32), .int 0, .int 0, .int (-1), .int 0, .int 0, .int 0, .int 0, .int 0, .int 0])), ((q 5), .inr (9, [.ref (q 33), .ref (q 34), .ref (q 35), .int 0, .int 0])), ((q 8), .inr (7, [.ref (q 36), .ref (q 37), .ref (q 38), .ref (q 39), .int 0, .int 0])), ((q 9), .inr (6, [.int 0, .int 0, .int 0, .ref (q 40), .ref (q 41), .ref (q 42), .ref (q 43)])), ((q 11), .inr (0, [.ref (q 44), .int 0, .int 0])), ((r 100), .inr (12, mF r 0 0 0 0 0 0 0 0 0 0 0 0 0 (-1) 1)), ((r 1), .inl (kT, 240, .inl fT)), ((r 18), .inl (kU, 2, .inl (fun _ => 0))), ((r 24), .inl (kL, 5, .inl (fun _ => 0))), ((r 32), .inl (kN, 208, .inl (fun _ => 0)))]) (hS : va_S (fun q : Nat => s.heap.size ≤ q) s.heap H locs) (hl : lv_has ls 7 [(0, .ref b), (1, .ref (q 15)), (2, .ref (r 100)), (3, .ref qo), (4, .int 0)]) : W p l e room_1 s m #[Value.ref b] below meth c H locs 335 33214 (lw_Z below #[Value.ref b] s) (F0 m 1196 ls []) := by
  obtain ⟨hx, hb, hr, hml, hown0, hts, hX, hbl, hlocks, hgv⟩ := id C0
  have hown : s.vm.findClass RL = some m.cls := hown0
  have hA : ∀ q : Nat, s.heap.size ≤ q → (fun q : Nat => s.heap.size ≤ q) q := fun _ h => h
  have hbA : ¬ (fun q : Nat => s.heap.size ≤ q) b := Nat.not_le.mpr hbl
  have hiX11 : ∀ w ∈ u_ws RX11 TX11 17, w ∈ lw_tbl := in_X11
  have hiX12 : ∀ w ∈ u_ws RX12 TX12 54, w ∈ lw_tbl := in_X12
  refine lv_aload_n hx hb dL_law_1196 rfl (lv_at hl 1 rfl) ?_
  refine lv_aload_n hx hb dL_law_1197 rfl (lv_at hl 0 rfl) ?_
  refine lv_iload hx hb dL_law_1198 (lv_at hl 4 rfl) ?_
  refine lv_iconst (v := 1) hx hb dL_law_1200 (by decide) ?_
  refine lv_iadd hx hb dL_law_1201 ?_
  refine lv_topi (fun v_1 e_1 => ?_)
  obtain rfl : v_1 = 1 := by rw [e_1]; decide
  refine va_sld hx hb hX hbl hbA hS (i := 1) (vp_in_nI (n := 1) (by decide) (by decide)) dL_law_1202 ?_
  refine lv_topi (fun v_2 e_2 => ?_)
  obtain rfl : v_2 = xs 1 := by rw [e_2]; exact congrArg xs (by decide)
  refine lv_aload_n hx hb dL_law_1203 rfl (lv_at hl 0 rfl) ?_
  refine lv_iload hx hb dL_law_1204 (lv_at hl 4 rfl) ?_
  refine lv_iconst (v := 2) hx hb dL_law_1206 (by decide) ?_
  refine lv_iadd hx hb dL_law_1207 ?_
  refine lv_topi (fun v_3 e_3 => ?_)
  obtain rfl : v_3 = 2 := by rw [e_3]; decide
  refine va_sld hx hb hX hbl hbA hS (i := 2) (vp_in_nI (n := 2) (by decide) (by decide)) dL_law_1208 ?_
  refine lv_topi (fun v_4 e_4 => ?_)
  obtain rfl : v_4 = xs 2 := by rw [e_4]; exact congrArg xs (by decide)
  have hPc := hP.sub (ws' := [((q 15), .inr (11, xF q 0 1)), ((q 1), .inr (5, [.int 0, .int 0, .int 0, .int 0, .ref (q 20), .ref (q 21), .ref (q 22), .ref (q 23)]))]) [0, 3] rfl
  have hDc := hD.sub (ws' := [((q 15), .inr (11, xF q 0 1)), ((q 1), .inr (5, [.int 0, .int 0, .int 0, .int 0, .ref (q 20), .ref (q 21), .ref (q 22), .ref (q 23)]))]) [0, 3] (by decide) rfl
  have hKc := hK.sub (tys' := []) [] rfl
  have hFc := va_free (wc := [((q 15), .inr (11, xF q 0 1)), ((q 1), .inr (5, [.int 0, .int 0, .int 0, .int 0, .ref (q 20), .ref (q 21), .ref (q 22), .ref (q 23)]))]) hD hS hA [0, 3] rfl
  refine va_calli (va_runV (As := [.int (xs 1), .int (xs 2)]) (rest := []) ⟨hx, hb, hml, hown, hts⟩ (f_X11_parted l dC dI H.size q ((xs 1)) ((xs 2))) (cwV 2 hts g_f_L_law_f_X11_parted rfl rfl rfl (by decide +kernel) ⟨Nat.le_of_ble_eq_true rfl, Nat.le_of_ble_eq_true rfl⟩) ⟨cW_blind, va_recv hKc hPc (ci := 11) (q0 := 0) rfl rfl, fun U hU hW => ⟨rfl, cW_use hU hW hPc hKc hDc hG⟩⟩ rfl rfl hl.1 rfl (lv_room (Nat.le_of_ble_eq_true rfl)) dL_law_1209 ⟨Nat.le_of_ble_eq_true rfl, Nat.le_of_ble_eq_true rfl⟩) hS (fun q _ h => hFc q h) hFc (fun r_5 u t H1 locs ht hvm hw hB hz1 hk1 hS => ?_)
  obtain ⟨hP, hD⟩ := va_join (wr := [((q 0), .inr (8, [.ref (q 16), .int 0, .int 0, .int 0])), ((q 16), .inl (kB, 240, .inl fB)), ((q 2), .inr (5, [.int 0, .int 0, .int 0, .int 0, .ref (q 24), .ref (q 25), .ref (q 26), .ref (q 27)])), ((q 24), .inl (kR, 2, .inl (fun _ => 0))), ((q 3), .inr (2, [.ref (q 0), .ref (q 28), .int 0])), ((q 4), .inr (3, [.ref (q 30), .ref (q 31), .ref (q 32), .int 0, .int 0, .int (-1), .int 0, .int 0, .int 0, .int 0, .int 0, .int 0])), ((q 5), .inr (9, [.ref (q 33), .ref (q 34), .ref (q 35), .int 0, .int 0])), ((q 8), .inr (7, [.ref (q 36), .ref (q 37), .ref (q 38), .ref (q 39), .int 0, .int 0])), ((q 9), .inr (6, [.int 0, .int 0, .int 0, .ref (q 40), .ref (q 41), .ref (q 42), .ref (q 43)])), ((q 11), .inr (0, [.ref (q 44), .int 0, .int 0])), ((r 100), .inr (12, mF r 0 0 0 0 0 0 0 0 0 0 0 0 0 (-1) 1)), ((r 1), .inl (kT, 240, .inl fT)), ((r 18), .inl (kU, 2, .inl (fun _ => 0))), ((r 24), .inl (kL, 5, .inl (fun _ => 0))), ((r 32), .inl (kN, 208, .inl (fun _ => 0)))]) (w1 := []) hP hD [0, 3] [1, 2, 4, 5, 6, 7, 8, 9, 10, 11, 12, 13, 14, 15, 16] rfl rfl (by decide) (by decide) hk1 hFc (va_P_nil H1) va_D_nil
  generalize H1 = H at hP hS ⊢
  have hP : va_P (dC, dI) vwCl [((q 0), .inr (8, [.ref (q 16), .int 0, .int 0, .int 0])), ((q 16), .inl (kB, 240, .inl fB)), ((q 2), .inr (5, [.int 0, .int 0, .int 0, .int 0, .ref (q 24), .ref (q 25), .ref (q 26), .ref (q 27)])), ((q 24), .inl (kR, 2, .inl (fun _ => 0))), ((q 3), .inr (2, [.ref (q 0), .ref (q 28), .int 0])), ((q 4), .inr (3, [.ref (q 30), .ref (q 31), .ref (q 32), .int 0, .int 0, .int (-1), .int 0, .int 0, .int 0, .int 0, .int 0, .int 0])), ((q 5), .inr (9, [.ref (q 33), .ref (q 34), .ref (q 35), .int 0, .int 0])), ((q 8), .inr (7, [.ref (q 36), .ref (q 37), .ref (q 38), .ref (q 39), .int 0, .int 0])), ((q 9), .inr (6, [.int 0, .int 0, .int 0, .ref (q 40), .ref (q 41), .ref (q 42), .ref (q 43)])), ((q 11), .inr (0, [.ref (q 44), .int 0, .int 0])), ((r 100), .inr (12, mF r 0 0 0 0 0 0 0 0 0 0 0 0 0 (-1) 1)), ((r 1), .inl (kT, 240, .inl fT)), ((r 18), .inl (kU, 2, .inl (fun _ => 0))), ((r 24), .inl (kL, 5, .inl (fun _ => 0))), ((r 32), .inl (kN, 208, .inl (fun _ => 0)))] H := hP
  have hD : va_D (fun q : Nat => s.heap.size ≤ q) [((q 0), .inr (8, [.ref (q 16), .int 0, .int 0, .int 0])), ((q 16), .inl (kB, 240, .inl fB)), ((q 2), .inr (5, [.int 0, .int 0, .int 0, .int 0, .ref (q 24), .ref (q 25), .ref (q 26), .ref (q 27)])), ((q 24), .inl (kR, 2, .inl (fun _ => 0))), ((q 3), .inr (2, [.ref (q 0), .ref (q 28), .int 0])), ((q 4), .inr (3, [.ref (q 30), .ref (q 31), .ref (q 32), .int 0, .int 0, .int (-1), .int 0, .int 0, .int 0, .int 0, .int 0, .int 0])), ((q 5), .inr (9, [.ref (q 33), .ref (q 34), .ref (q 35), .int 0, .int 0])), ((q 8), .inr (7, [.ref (q 36), .ref (q 37), .ref (q 38), .ref (q 39), .int 0, .int 0])), ((q 9), .inr (6, [.int 0, .int 0, .int 0, .ref (q 40), .ref (q 41), .ref (q 42), .ref (q 43)])), ((q 11), .inr (0, [.ref (q 44), .int 0, .int 0])), ((r 100), .inr (12, mF r 0 0 0 0 0 0 0 0 0 0 0 0 0 (-1) 1)), ((r 1), .inl (kT, 240, .inl fT)), ((r 18), .inl (kU, 2, .inl (fun _ => 0))), ((r 24), .inl (kL, 5, .inl (fun _ => 0))), ((r 32), .inl (kN, 208, .inl (fun _ => 0)))] := hD
  refine W.widen (k := 335) (n := 33214) (Nat.le_of_ble_eq_true rfl) (Nat.le_of_ble_eq_true rfl) ?_
  obtain rfl : r_5 = (-1) := hw
  refine lv_aload_n hx hb dL_law_1212 rfl (lv_at hl 2 rfl) ?_
  refine lv_aload_n hx hb dL_law_1213 rfl (lv_at hl 0 rfl) ?_
  refine lv_iload hx hb dL_law_1214 (lv_at hl 4 rfl) ?_
  refine lv_iconst (v := 1) hx hb dL_law_1216 (by decide) ?_
  refine lv_iadd hx hb dL_law_1217 ?_
  refine lv_topi (fun v_6 e_6 => ?_)
  obtain rfl : v_6 = 1 := by rw [e_6]; decide
  refine va_sld hx hb hX hbl hbA hS (i := 1) (vp_in_nI (n := 1) (by decide) (by decide)) dL_law_1218 ?_
  refine lv_topi (fun v_7 e_7 => ?_)
  obtain rfl : v_7 = xs 1 := by rw [e_7]; exact congrArg xs (by decide)
  refine lv_aload_n hx hb dL_law_1219 rfl (lv_at hl 0 rfl) ?_
  refine lv_iload hx hb dL_law_1220 (lv_at hl 4 rfl) ?_
  refine lv_iconst (v := 2) hx hb dL_law_1222 (by decide) ?_
  refine lv_iadd hx hb dL_law_1223 ?_
  refine lv_topi (fun v_8 e_8 => ?_)
  obtain rfl : v_8 = 2 := by rw [e_8]; decide
  refine va_sld hx hb hX hbl hbA hS (i := 2) (vp_in_nI (n := 2) (by decide) (by decide)) dL_law_1224 ?_
  refine lv_topi (fun v_9 e_9 => ?_)
  obtain rfl : v_9 = xs 2 := by rw [e_9]; exact congrArg xs (by decide)
  have hPc := hP.sub (ws' := [((r 100), .inr (12, mF r 0 0 0 0 0 0 0 0 0 0 0 0 0 (-1) 1))]) [10] rfl
  have hDc := hD.sub (ws' := [((r 100), .inr (12, mF r 0 0 0 0 0 0 0 0 0 0 0 0 0 (-1) 1))]) [10] (by decide) rfl
  have hKc := hK.sub (tys' := []) [] rfl
  have hFc := va_free (wc := [((r 100), .inr (12, mF r 0 0 0 0 0 0 0 0 0 0 0 0 0 (-1) 1))]) hD hS hA [10] rfl
  refine va_calli (va_runV (As := [.int (xs 1), .int (xs 2)]) (rest := [.int (-1)]) ⟨hx, hb, hml, hown, hts⟩ (f_X12_parted l dC dI H.size r ((xs 1)) ((xs 2))) (cwV 2 hts g_f_L_law_f_X12_parted rfl rfl rfl (by decide +kernel) ⟨Nat.le_of_ble_eq_true rfl, Nat.le_of_ble_eq_true rfl⟩) ⟨cW_blind, va_recv hKc hPc (ci := 12) (q0 := 0) rfl rfl, fun U hU hW => ⟨rfl, cW_use hU hW hPc hKc hDc hG⟩⟩ rfl rfl hl.1 rfl (lv_room (Nat.le_of_ble_eq_true rfl)) dL_law_1225 ⟨Nat.le_of_ble_eq_true rfl, Nat.le_of_ble_eq_true rfl⟩) hS (fun q _ h => hFc q h) hFc (fun r_10 u t H1 locs ht hvm hw hB hz1 hk1 hS => ?_)
  obtain ⟨hP, hD⟩ := va_join (wr := [((q 0), .inr (8, [.ref (q 16), .int 0, .int 0, .int 0])), ((q 16), .inl (kB, 240, .inl fB)), ((q 2), .inr (5, [.int 0, .int 0, .int 0, .int 0, .ref (q 24), .ref (q 25), .ref (q 26), .ref (q 27)])), ((q 24), .inl (kR, 2, .inl (fun _ => 0))), ((q 3), .inr (2, [.ref (q 0), .ref (q 28), .int 0])), ((q 4), .inr (3, [.ref (q 30), .ref (q 31), .ref (q 32), .int 0, .int 0, .int (-1), .int 0, .int 0, .int 0, .int 0, .int 0, .int 0])), ((q 5), .inr (9, [.ref (q 33), .ref (q 34), .ref (q 35), .int 0, .int 0])), ((q 8), .inr (7, [.ref (q 36), .ref (q 37), .ref (q 38), .ref (q 39), .int 0, .int 0])), ((q 9), .inr (6, [.int 0, .int 0, .int 0, .ref (q 40), .ref (q 41), .ref (q 42), .ref (q 43)])), ((q 11), .inr (0, [.ref (q 44), .int 0, .int 0])), ((r 1), .inl (kT, 240, .inl fT)), ((r 18), .inl (kU, 2, .inl (fun _ => 0))), ((r 24), .inl (kL, 5, .inl (fun _ => 0))), ((r 32), .inl (kN, 208, .inl (fun _ => 0)))]) (w1 := []) hP hD [10] [0, 1, 2, 3, 4, 5, 6, 7, 8, 9, 11, 12, 13, 14] rfl rfl (by decide) (by decide) hk1 hFc (va_P_nil H1) va_D_nil
  generalize H1 = H at hP hS ⊢
  have hP : va_P (dC, dI) vwCl [((q 0), .inr (8, [.ref (q 16), .int 0, .int 0, .int 0])), ((q 16), .inl (kB, 240, .inl fB)), ((q 2), .inr (5, [.int 0, .int 0, .int 0, .int 0, .ref (q 24), .ref (q 25), .ref (q 26), .ref (q 27)])), ((q 24), .inl (kR, 2, .inl (fun _ => 0))), ((q 3), .inr (2, [.ref (q 0), .ref (q 28), .int 0])), ((q 4), .inr (3, [.ref (q 30), .ref (q 31), .ref (q 32), .int 0, .int 0, .int (-1), .int 0, .int 0, .int 0, .int 0, .int 0, .int 0])), ((q 5), .inr (9, [.ref (q 33), .ref (q 34), .ref (q 35), .int 0, .int 0])), ((q 8), .inr (7, [.ref (q 36), .ref (q 37), .ref (q 38), .ref (q 39), .int 0, .int 0])), ((q 9), .inr (6, [.int 0, .int 0, .int 0, .ref (q 40), .ref (q 41), .ref (q 42), .ref (q 43)])), ((q 11), .inr (0, [.ref (q 44), .int 0, .int 0])), ((r 1), .inl (kT, 240, .inl fT)), ((r 18), .inl (kU, 2, .inl (fun _ => 0))), ((r 24), .inl (kL, 5, .inl (fun _ => 0))), ((r 32), .inl (kN, 208, .inl (fun _ => 0)))] H := hP
  have hD : va_D (fun q : Nat => s.heap.size ≤ q) [((q 0), .inr (8, [.ref (q 16), .int 0, .int 0, .int 0])), ((q 16), .inl (kB, 240, .inl fB)), ((q 2), .inr (5, [.int 0, .int 0, .int 0, .int 0, .ref (q 24), .ref (q 25), .ref (q 26), .ref (q 27)])), ((q 24), .inl (kR, 2, .inl (fun _ => 0))), ((q 3), .inr (2, [.ref (q 0), .ref (q 28), .int 0])), ((q 4), .inr (3, [.ref (q 30), .ref (q 31), .ref (q 32), .int 0, .int 0, .int (-1), .int 0, .int 0, .int 0, .int 0, .int 0, .int 0])), ((q 5), .inr (9, [.ref (q 33), .ref (q 34), .ref (q 35), .int 0, .int 0])), ((q 8), .inr (7, [.ref (q 36), .ref (q 37), .ref (q 38), .ref (q 39), .int 0, .int 0])), ((q 9), .inr (6, [.int 0, .int 0, .int 0, .ref (q 40), .ref (q 41), .ref (q 42), .ref (q 43)])), ((q 11), .inr (0, [.ref (q 44), .int 0, .int 0])), ((r 1), .inl (kT, 240, .inl fT)), ((r 18), .inl (kU, 2, .inl (fun _ => 0))), ((r 24), .inl (kL, 5, .inl (fun _ => 0))), ((r 32), .inl (kN, 208, .inl (fun _ => 0)))] := hD
  refine W.widen (k := 335) (n := 33214) (Nat.le_of_ble_eq_true rfl) (Nat.le_of_ble_eq_true rfl) ?_
  obtain rfl : r_10 = (-1) := hw
  refine lv_icmp_eq (tgt := 1629) hx hb dL_law_1228 (by decide) (fun c_11 => ?_) (fun c_11 => absurd (by decide) c_11)
  exact lc_exit C0 hS (by decide) (by decide) ls (lv_sub hl [0, 4] rfl)
set_option maxHeartbeats 4000000 in
set_option maxRecDepth 100000 in
theorem lc_30 {p : Program} {l : Launch} {e : Env} {s : State} {m : MethodId} {below : List Frame} {meth : Method} {c : Code} {b : Nat} {xs : Nat → Int32} {H : Heap} {locs : List Loc} {ls : Array Slot} {dC : Nat → ClassId} {dI : Nat → Nat → Nat} {sk sv : Nat → Nat} {s2 tz s3 : Nat} (q r : Nat → Nat) (kB : ClassId) (kR : ClassId) (kT : ClassId) (kU : ClassId) (kL : ClassId) (kN : ClassId) (fB fT : Nat → Int32) (qo : Nat) (hlt : l.stackTraces = false) (C0 : lw_At p s m meth c b 6 xs) (hG : gxP s) (hE : exP sk sv s2 tz (fun q : Nat => s.heap.size ≤ q) s s.heap) (hT : tP s3 (fun q : Nat => s.heap.size ≤ q) s s.heap) (hK : va_K (dC, dI) vwCl [(kB, .int), (kR, .int), (kT, .byte), (kU, .int), (kL, .int), (kN, .int)] s) (hP : va_P (dC, dI) vwCl [((q 15), .inr (11, xF q 0 1)), ((q 0), .inr (8, [.ref (q 16), .int 0, .int 0, .int 0])), ((q 16), .inl (kB, 240, .inl fB)), ((q 1), .inr (5, [.int 0, .int 0, .int 0, .int 0, .ref (q 20), .ref (q 21), .ref (q 22), .ref (q 23)])), ((q 2), .inr (5, [.int 0, .int 0, .int 0, .int 0, .ref (q 24), .ref (q 25), .ref (q 26), .ref (q 27)])), ((q 24), .inl (kR, 2, .inl (fun _ => 0))), ((q 3), .inr (2, [.ref (q 0), .ref (q 28), .int 0])), ((q 4), .inr (3, [.ref (q 30), .ref (q 31), .ref (q 32), .int 0, .int 0, .int (-1), .int 0, .int 0, .int 0, .int 0, .int 0, .int 0])), ((q 5), .inr (9, [.ref (q 33), .ref (q 34), .ref (q 35), .int 0, .int 0])), ((q 8), .inr (7, [.ref (q 36), .ref (q 37), .ref (q 38), .ref (q 39), .int 0, .int 0])), ((q 9), .inr (6, [.int 0, .int 0, .int 0, .ref (q 40), .ref (q 41), .ref (q 42), .ref (q 43)])), ((q 11), .inr (0, [.ref (q 44), .int 0, .int 0])), ((r 100), .inr (12, mF r 0 0 0 0 0 0 0 0 0 0 0 0 0 (-1) 1)), ((r 1), .inl (kT, 240, .inl fT)), ((r 18), .inl (kU, 2, .inl (fun _ => 0))), ((r 24), .inl (kL, 5, .inl (fun _ => 0))), ((r 32), .inl (kN, 208, .inl (fun _ => 0)))] H) (hD : va_D (fun q : Nat => s.heap.size ≤ q) [((q 15), .inr (11, xF q 0 1)), ((q 0), .inr (8, [.ref (q 16), .int 0, .int 0, .int 0])), ((q 16), .inl (kB, 240, .inl fB)), ((q 1), .inr (5, [.int 0, .int 0, .int 0, .int 0, .ref (q 20), .ref (q 21), .ref (q 22), .ref (q 23)])), ((q 2), .inr (5, [.int 0, .int 0, .int 0, .int 0, .ref (q 24), .ref (q 25), .ref (q 26), .ref (q 27)])), ((q 24), .inl (kR, 2, .inl (fun _ => 0))), ((q 3), .inr (2, [.ref (q 0), .ref (q 28), .int 0])), ((q 4), .inr (3, [.ref (q 30), .ref (q 31), .ref (q 32), .int 0, .int 0, .int (-1), .int 0, .int 0, .int 0, .int 0, .int 0, .int 0])), ((q 5), .inr (9, [.ref (q 33), .ref (q 34), .ref (q 35), .int 0, .int 0])), ((q 8), .inr (7, [.ref (q 36), .ref (q 37), .ref (q 38), .ref (q 39), .int 0, .int 0])), ((q 9), .inr (6, [.int 0, .int 0, .int 0, .ref (q 40), .ref (q 41), .ref (q 42), .ref (q 43)])), ((q 11), .inr (0, [.ref (q 44), .int 0, .int 0])), ((r 100), .inr (12, mF r 0 0 0 0 0 0 0 0 0 0 0 0 0 (-1) 1)), ((r 1), .inl (kT, 240, .inl fT)), ((r 18), .inl (kU, 2, .inl (fun _ => 0))), ((r 24), .inl (kL, 5, .inl (fun _ => 0))), ((r 32), .inl (kN, 208, .inl (fun _ => 0)))]) (hS : va_S (fun q : Nat => s.heap.size ≤ q) s.heap H locs) (hl : lv_has ls 7 [(0, .ref b), (1, .ref (q 15)), (2, .ref (r 100)), (3, .ref qo), (4, .int 0)]) : W p l e room_1 s m #[Value.ref b] below meth c H locs 335 33214 (lw_Z below #[Value.ref b] s) (F0 m 1233 ls []) := by
  obtain ⟨hx, hb, hr, hml, hown0, hts, hX, hbl, hlocks, hgv⟩ := id C0
  have hown : s.vm.findClass RL = some m.cls := hown0
  have hA : ∀ q : Nat, s.heap.size ≤ q → (fun q : Nat => s.heap.size ≤ q) q := fun _ h => h
  have hbA : ¬ (fun q : Nat => s.heap.size ≤ q) b := Nat.not_le.mpr hbl
  have hiX11 : ∀ w ∈ u_ws RX11 TX11 17, w ∈ lw_tbl := in_X11
  have hiX12 : ∀ w ∈ u_ws RX12 TX12 54, w ∈ lw_tbl := in_X12
  refine lv_aload_n hx hb dL_law_1233 rfl (lv_at hl 1 rfl) ?_
  refine lv_aload_n hx hb dL_law_1234 rfl (lv_at hl 0 rfl) ?_
  refine lv_iload hx hb dL_law_1235 (lv_at hl 4 rfl) ?_
  refine lv_iconst (v := 1) hx hb dL_law_1237 (by decide) ?_
  refine lv_iadd hx hb dL_law_1238 ?_
  refine lv_topi (fun v_1 e_1 => ?_)
  obtain rfl : v_1 = 1 := by rw [e_1]; decide
  refine va_sld hx hb hX hbl hbA hS (i := 1) (vp_in_nI (n := 1) (by decide) (by decide)) dL_law_1239 ?_
  refine lv_topi (fun v_2 e_2 => ?_)
  obtain rfl : v_2 = xs 1 := by rw [e_2]; exact congrArg xs (by decide)
  refine lv_aload_n hx hb dL_law_1240 rfl (lv_at hl 0 rfl) ?_
  refine lv_iload hx hb dL_law_1241 (lv_at hl 4 rfl) ?_
  refine lv_iconst (v := 2) hx hb dL_law_1243 (by decide) ?_
  refine lv_iadd hx hb dL_law_1244 ?_
  refine lv_topi (fun v_3 e_3 => ?_)
  obtain rfl : v_3 = 2 := by rw [e_3]; decide
  refine va_sld hx hb hX hbl hbA hS (i := 2) (vp_in_nI (n := 2) (by decide) (by decide)) dL_law_1245 ?_
  refine lv_topi (fun v_4 e_4 => ?_)
  obtain rfl : v_4 = xs 2 := by rw [e_4]; exact congrArg xs (by decide)
  have hPc := hP.sub (ws' := [((q 15), .inr (11, xF q 0 1)), ((q 1), .inr (5, [.int 0, .int 0, .int 0, .int 0, .ref (q 20), .ref (q 21), .ref (q 22), .ref (q 23)]))]) [0, 3] rfl
  have hDc := hD.sub (ws' := [((q 15), .inr (11, xF q 0 1)), ((q 1), .inr (5, [.int 0, .int 0, .int 0, .int 0, .ref (q 20), .ref (q 21), .ref (q 22), .ref (q 23)]))]) [0, 3] (by decide) rfl
  have hKc := hK.sub (tys' := []) [] rfl
  have hFc := va_free (wc := [((q 15), .inr (11, xF q 0 1)), ((q 1), .inr (5, [.int 0, .int 0, .int 0, .int 0, .ref (q 20), .ref (q 21), .ref (q 22), .ref (q 23)]))]) hD hS hA [0, 3] rfl
  refine va_calli (va_runV (As := [.int (xs 1), .int (xs 2)]) (rest := []) ⟨hx, hb, hml, hown, hts⟩ (f_X11_draws l dC dI H.size q ((xs 1)) ((xs 2))) (cwV 2 hts g_f_L_law_f_X11_draws rfl rfl rfl (by decide +kernel) ⟨Nat.le_of_ble_eq_true rfl, Nat.le_of_ble_eq_true rfl⟩) ⟨cW_blind, va_recv hKc hPc (ci := 11) (q0 := 0) rfl rfl, fun U hU hW => ⟨rfl, cW_use hU hW hPc hKc hDc hG⟩⟩ rfl rfl hl.1 rfl (lv_room (Nat.le_of_ble_eq_true rfl)) dL_law_1246 ⟨Nat.le_of_ble_eq_true rfl, Nat.le_of_ble_eq_true rfl⟩) hS (fun q _ h => hFc q h) hFc (fun r_5 u t H1 locs ht hvm hw hB hz1 hk1 hS => ?_)
  obtain ⟨hP, hD⟩ := va_join (wr := [((q 0), .inr (8, [.ref (q 16), .int 0, .int 0, .int 0])), ((q 16), .inl (kB, 240, .inl fB)), ((q 2), .inr (5, [.int 0, .int 0, .int 0, .int 0, .ref (q 24), .ref (q 25), .ref (q 26), .ref (q 27)])), ((q 24), .inl (kR, 2, .inl (fun _ => 0))), ((q 3), .inr (2, [.ref (q 0), .ref (q 28), .int 0])), ((q 4), .inr (3, [.ref (q 30), .ref (q 31), .ref (q 32), .int 0, .int 0, .int (-1), .int 0, .int 0, .int 0, .int 0, .int 0, .int 0])), ((q 5), .inr (9, [.ref (q 33), .ref (q 34), .ref (q 35), .int 0, .int 0])), ((q 8), .inr (7, [.ref (q 36), .ref (q 37), .ref (q 38), .ref (q 39), .int 0, .int 0])), ((q 9), .inr (6, [.int 0, .int 0, .int 0, .ref (q 40), .ref (q 41), .ref (q 42), .ref (q 43)])), ((q 11), .inr (0, [.ref (q 44), .int 0, .int 0])), ((r 100), .inr (12, mF r 0 0 0 0 0 0 0 0 0 0 0 0 0 (-1) 1)), ((r 1), .inl (kT, 240, .inl fT)), ((r 18), .inl (kU, 2, .inl (fun _ => 0))), ((r 24), .inl (kL, 5, .inl (fun _ => 0))), ((r 32), .inl (kN, 208, .inl (fun _ => 0)))]) (w1 := []) hP hD [0, 3] [1, 2, 4, 5, 6, 7, 8, 9, 10, 11, 12, 13, 14, 15, 16] rfl rfl (by decide) (by decide) hk1 hFc (va_P_nil H1) va_D_nil
  generalize H1 = H at hP hS ⊢
  have hP : va_P (dC, dI) vwCl [((q 0), .inr (8, [.ref (q 16), .int 0, .int 0, .int 0])), ((q 16), .inl (kB, 240, .inl fB)), ((q 2), .inr (5, [.int 0, .int 0, .int 0, .int 0, .ref (q 24), .ref (q 25), .ref (q 26), .ref (q 27)])), ((q 24), .inl (kR, 2, .inl (fun _ => 0))), ((q 3), .inr (2, [.ref (q 0), .ref (q 28), .int 0])), ((q 4), .inr (3, [.ref (q 30), .ref (q 31), .ref (q 32), .int 0, .int 0, .int (-1), .int 0, .int 0, .int 0, .int 0, .int 0, .int 0])), ((q 5), .inr (9, [.ref (q 33), .ref (q 34), .ref (q 35), .int 0, .int 0])), ((q 8), .inr (7, [.ref (q 36), .ref (q 37), .ref (q 38), .ref (q 39), .int 0, .int 0])), ((q 9), .inr (6, [.int 0, .int 0, .int 0, .ref (q 40), .ref (q 41), .ref (q 42), .ref (q 43)])), ((q 11), .inr (0, [.ref (q 44), .int 0, .int 0])), ((r 100), .inr (12, mF r 0 0 0 0 0 0 0 0 0 0 0 0 0 (-1) 1)), ((r 1), .inl (kT, 240, .inl fT)), ((r 18), .inl (kU, 2, .inl (fun _ => 0))), ((r 24), .inl (kL, 5, .inl (fun _ => 0))), ((r 32), .inl (kN, 208, .inl (fun _ => 0)))] H := hP
  have hD : va_D (fun q : Nat => s.heap.size ≤ q) [((q 0), .inr (8, [.ref (q 16), .int 0, .int 0, .int 0])), ((q 16), .inl (kB, 240, .inl fB)), ((q 2), .inr (5, [.int 0, .int 0, .int 0, .int 0, .ref (q 24), .ref (q 25), .ref (q 26), .ref (q 27)])), ((q 24), .inl (kR, 2, .inl (fun _ => 0))), ((q 3), .inr (2, [.ref (q 0), .ref (q 28), .int 0])), ((q 4), .inr (3, [.ref (q 30), .ref (q 31), .ref (q 32), .int 0, .int 0, .int (-1), .int 0, .int 0, .int 0, .int 0, .int 0, .int 0])), ((q 5), .inr (9, [.ref (q 33), .ref (q 34), .ref (q 35), .int 0, .int 0])), ((q 8), .inr (7, [.ref (q 36), .ref (q 37), .ref (q 38), .ref (q 39), .int 0, .int 0])), ((q 9), .inr (6, [.int 0, .int 0, .int 0, .ref (q 40), .ref (q 41), .ref (q 42), .ref (q 43)])), ((q 11), .inr (0, [.ref (q 44), .int 0, .int 0])), ((r 100), .inr (12, mF r 0 0 0 0 0 0 0 0 0 0 0 0 0 (-1) 1)), ((r 1), .inl (kT, 240, .inl fT)), ((r 18), .inl (kU, 2, .inl (fun _ => 0))), ((r 24), .inl (kL, 5, .inl (fun _ => 0))), ((r 32), .inl (kN, 208, .inl (fun _ => 0)))] := hD
  refine W.widen (k := 335) (n := 33214) (Nat.le_of_ble_eq_true rfl) (Nat.le_of_ble_eq_true rfl) ?_
  obtain rfl : r_5 = (-1000000) := hw
  refine lv_aload_n hx hb dL_law_1249 rfl (lv_at hl 2 rfl) ?_
  refine lv_aload_n hx hb dL_law_1250 rfl (lv_at hl 0 rfl) ?_
  refine lv_iload hx hb dL_law_1251 (lv_at hl 4 rfl) ?_
  refine lv_iconst (v := 1) hx hb dL_law_1253 (by decide) ?_
  refine lv_iadd hx hb dL_law_1254 ?_
  refine lv_topi (fun v_6 e_6 => ?_)
  obtain rfl : v_6 = 1 := by rw [e_6]; decide
  refine va_sld hx hb hX hbl hbA hS (i := 1) (vp_in_nI (n := 1) (by decide) (by decide)) dL_law_1255 ?_
  refine lv_topi (fun v_7 e_7 => ?_)
  obtain rfl : v_7 = xs 1 := by rw [e_7]; exact congrArg xs (by decide)
  refine lv_aload_n hx hb dL_law_1256 rfl (lv_at hl 0 rfl) ?_
  refine lv_iload hx hb dL_law_1257 (lv_at hl 4 rfl) ?_
  refine lv_iconst (v := 2) hx hb dL_law_1259 (by decide) ?_
  refine lv_iadd hx hb dL_law_1260 ?_
  refine lv_topi (fun v_8 e_8 => ?_)
  obtain rfl : v_8 = 2 := by rw [e_8]; decide
  refine va_sld hx hb hX hbl hbA hS (i := 2) (vp_in_nI (n := 2) (by decide) (by decide)) dL_law_1261 ?_
  refine lv_topi (fun v_9 e_9 => ?_)
  obtain rfl : v_9 = xs 2 := by rw [e_9]; exact congrArg xs (by decide)
  have hPc := hP.sub (ws' := [((r 100), .inr (12, mF r 0 0 0 0 0 0 0 0 0 0 0 0 0 (-1) 1))]) [10] rfl
  have hDc := hD.sub (ws' := [((r 100), .inr (12, mF r 0 0 0 0 0 0 0 0 0 0 0 0 0 (-1) 1))]) [10] (by decide) rfl
  have hKc := hK.sub (tys' := []) [] rfl
  have hFc := va_free (wc := [((r 100), .inr (12, mF r 0 0 0 0 0 0 0 0 0 0 0 0 0 (-1) 1))]) hD hS hA [10] rfl
  refine va_calli (va_runV (As := [.int (xs 1), .int (xs 2)]) (rest := [.int (-1000000)]) ⟨hx, hb, hml, hown, hts⟩ (f_X12_draws l dC dI H.size r ((xs 1)) ((xs 2))) (cwV 2 hts g_f_L_law_f_X12_draws rfl rfl rfl (by decide +kernel) ⟨Nat.le_of_ble_eq_true rfl, Nat.le_of_ble_eq_true rfl⟩) ⟨cW_blind, va_recv hKc hPc (ci := 12) (q0 := 0) rfl rfl, fun U hU hW => ⟨rfl, cW_use hU hW hPc hKc hDc hG⟩⟩ rfl rfl hl.1 rfl (lv_room (Nat.le_of_ble_eq_true rfl)) dL_law_1262 ⟨Nat.le_of_ble_eq_true rfl, Nat.le_of_ble_eq_true rfl⟩) hS (fun q _ h => hFc q h) hFc (fun r_10 u t H1 locs ht hvm hw hB hz1 hk1 hS => ?_)
  obtain ⟨hP, hD⟩ := va_join (wr := [((q 0), .inr (8, [.ref (q 16), .int 0, .int 0, .int 0])), ((q 16), .inl (kB, 240, .inl fB)), ((q 2), .inr (5, [.int 0, .int 0, .int 0, .int 0, .ref (q 24), .ref (q 25), .ref (q 26), .ref (q 27)])), ((q 24), .inl (kR, 2, .inl (fun _ => 0))), ((q 3), .inr (2, [.ref (q 0), .ref (q 28), .int 0])), ((q 4), .inr (3, [.ref (q 30), .ref (q 31), .ref (q 32), .int 0, .int 0, .int (-1), .int 0, .int 0, .int 0, .int 0, .int 0, .int 0])), ((q 5), .inr (9, [.ref (q 33), .ref (q 34), .ref (q 35), .int 0, .int 0])), ((q 8), .inr (7, [.ref (q 36), .ref (q 37), .ref (q 38), .ref (q 39), .int 0, .int 0])), ((q 9), .inr (6, [.int 0, .int 0, .int 0, .ref (q 40), .ref (q 41), .ref (q 42), .ref (q 43)])), ((q 11), .inr (0, [.ref (q 44), .int 0, .int 0])), ((r 1), .inl (kT, 240, .inl fT)), ((r 18), .inl (kU, 2, .inl (fun _ => 0))), ((r 24), .inl (kL, 5, .inl (fun _ => 0))), ((r 32), .inl (kN, 208, .inl (fun _ => 0)))]) (w1 := []) hP hD [10] [0, 1, 2, 3, 4, 5, 6, 7, 8, 9, 11, 12, 13, 14] rfl rfl (by decide) (by decide) hk1 hFc (va_P_nil H1) va_D_nil
  generalize H1 = H at hP hS ⊢
  have hP : va_P (dC, dI) vwCl [((q 0), .inr (8, [.ref (q 16), .int 0, .int 0, .int 0])), ((q 16), .inl (kB, 240, .inl fB)), ((q 2), .inr (5, [.int 0, .int 0, .int 0, .int 0, .ref (q 24), .ref (q 25), .ref (q 26), .ref (q 27)])), ((q 24), .inl (kR, 2, .inl (fun _ => 0))), ((q 3), .inr (2, [.ref (q 0), .ref (q 28), .int 0])), ((q 4), .inr (3, [.ref (q 30), .ref (q 31), .ref (q 32), .int 0, .int 0, .int (-1), .int 0, .int 0, .int 0, .int 0, .int 0, .int 0])), ((q 5), .inr (9, [.ref (q 33), .ref (q 34), .ref (q 35), .int 0, .int 0])), ((q 8), .inr (7, [.ref (q 36), .ref (q 37), .ref (q 38), .ref (q 39), .int 0, .int 0])), ((q 9), .inr (6, [.int 0, .int 0, .int 0, .ref (q 40), .ref (q 41), .ref (q 42), .ref (q 43)])), ((q 11), .inr (0, [.ref (q 44), .int 0, .int 0])), ((r 1), .inl (kT, 240, .inl fT)), ((r 18), .inl (kU, 2, .inl (fun _ => 0))), ((r 24), .inl (kL, 5, .inl (fun _ => 0))), ((r 32), .inl (kN, 208, .inl (fun _ => 0)))] H := hP
  have hD : va_D (fun q : Nat => s.heap.size ≤ q) [((q 0), .inr (8, [.ref (q 16), .int 0, .int 0, .int 0])), ((q 16), .inl (kB, 240, .inl fB)), ((q 2), .inr (5, [.int 0, .int 0, .int 0, .int 0, .ref (q 24), .ref (q 25), .ref (q 26), .ref (q 27)])), ((q 24), .inl (kR, 2, .inl (fun _ => 0))), ((q 3), .inr (2, [.ref (q 0), .ref (q 28), .int 0])), ((q 4), .inr (3, [.ref (q 30), .ref (q 31), .ref (q 32), .int 0, .int 0, .int (-1), .int 0, .int 0, .int 0, .int 0, .int 0, .int 0])), ((q 5), .inr (9, [.ref (q 33), .ref (q 34), .ref (q 35), .int 0, .int 0])), ((q 8), .inr (7, [.ref (q 36), .ref (q 37), .ref (q 38), .ref (q 39), .int 0, .int 0])), ((q 9), .inr (6, [.int 0, .int 0, .int 0, .ref (q 40), .ref (q 41), .ref (q 42), .ref (q 43)])), ((q 11), .inr (0, [.ref (q 44), .int 0, .int 0])), ((r 1), .inl (kT, 240, .inl fT)), ((r 18), .inl (kU, 2, .inl (fun _ => 0))), ((r 24), .inl (kL, 5, .inl (fun _ => 0))), ((r 32), .inl (kN, 208, .inl (fun _ => 0)))] := hD
  refine W.widen (k := 335) (n := 33214) (Nat.le_of_ble_eq_true rfl) (Nat.le_of_ble_eq_true rfl) ?_
  obtain rfl : r_10 = (-1000000) := hw
  refine lv_icmp_eq (tgt := 1629) hx hb dL_law_1265 (by decide) (fun c_11 => ?_) (fun c_11 => absurd (by decide) c_11)
  exact lc_exit C0 hS (by decide) (by decide) ls (lv_sub hl [0, 4] rfl)
set_option maxHeartbeats 4000000 in
set_option maxRecDepth 100000 in
theorem lc_31 {p : Program} {l : Launch} {e : Env} {s : State} {m : MethodId} {below : List Frame} {meth : Method} {c : Code} {b : Nat} {xs : Nat → Int32} {H : Heap} {locs : List Loc} {ls : Array Slot} {dC : Nat → ClassId} {dI : Nat → Nat → Nat} {sk sv : Nat → Nat} {s2 tz s3 : Nat} (q r : Nat → Nat) (kB : ClassId) (kR : ClassId) (kT : ClassId) (kU : ClassId) (kL : ClassId) (kN : ClassId) (fB fT : Nat → Int32) (qo : Nat) (hlt : l.stackTraces = false) (C0 : lw_At p s m meth c b 6 xs) (hG : gxP s) (hE : exP sk sv s2 tz (fun q : Nat => s.heap.size ≤ q) s s.heap) (hT : tP s3 (fun q : Nat => s.heap.size ≤ q) s s.heap) (hK : va_K (dC, dI) vwCl [(kB, .int), (kR, .int), (kT, .byte), (kU, .int), (kL, .int), (kN, .int)] s) (hP : va_P (dC, dI) vwCl [((q 15), .inr (11, xF q 0 1)), ((q 0), .inr (8, [.ref (q 16), .int 0, .int 0, .int 0])), ((q 16), .inl (kB, 240, .inl fB)), ((q 1), .inr (5, [.int 0, .int 0, .int 0, .int 0, .ref (q 20), .ref (q 21), .ref (q 22), .ref (q 23)])), ((q 2), .inr (5, [.int 0, .int 0, .int 0, .int 0, .ref (q 24), .ref (q 25), .ref (q 26), .ref (q 27)])), ((q 24), .inl (kR, 2, .inl (fun _ => 0))), ((q 3), .inr (2, [.ref (q 0), .ref (q 28), .int 0])), ((q 4), .inr (3, [.ref (q 30), .ref (q 31), .ref (q 32), .int 0, .int 0, .int (-1), .int 0, .int 0, .int 0, .int 0, .int 0, .int 0])), ((q 5), .inr (9, [.ref (q 33), .ref (q 34), .ref (q 35), .int 0, .int 0])), ((q 8), .inr (7, [.ref (q 36), .ref (q 37), .ref (q 38), .ref (q 39), .int 0, .int 0])), ((q 9), .inr (6, [.int 0, .int 0, .int 0, .ref (q 40), .ref (q 41), .ref (q 42), .ref (q 43)])), ((q 11), .inr (0, [.ref (q 44), .int 0, .int 0])), ((r 100), .inr (12, mF r 0 0 0 0 0 0 0 0 0 0 0 0 0 (-1) 1)), ((r 1), .inl (kT, 240, .inl fT)), ((r 18), .inl (kU, 2, .inl (fun _ => 0))), ((r 24), .inl (kL, 5, .inl (fun _ => 0))), ((r 32), .inl (kN, 208, .inl (fun _ => 0)))] H) (hD : va_D (fun q : Nat => s.heap.size ≤ q) [((q 15), .inr (11, xF q 0 1)), ((q 0), .inr (8, [.ref (q 16), .int 0, .int 0, .int 0])), ((q 16), .inl (kB, 240, .inl fB)), ((q 1), .inr (5, [.int 0, .int 0, .int 0, .int 0, .ref (q 20), .ref (q 21), .ref (q 22), .ref (q 23)])), ((q 2), .inr (5, [.int 0, .int 0, .int 0, .int 0, .ref (q 24), .ref (q 25), .ref (q 26), .ref (q 27)])), ((q 24), .inl (kR, 2, .inl (fun _ => 0))), ((q 3), .inr (2, [.ref (q 0), .ref (q 28), .int 0])), ((q 4), .inr (3, [.ref (q 30), .ref (q 31), .ref (q 32), .int 0, .int 0, .int (-1), .int 0, .int 0, .int 0, .int 0, .int 0, .int 0])), ((q 5), .inr (9, [.ref (q 33), .ref (q 34), .ref (q 35), .int 0, .int 0])), ((q 8), .inr (7, [.ref (q 36), .ref (q 37), .ref (q 38), .ref (q 39), .int 0, .int 0])), ((q 9), .inr (6, [.int 0, .int 0, .int 0, .ref (q 40), .ref (q 41), .ref (q 42), .ref (q 43)])), ((q 11), .inr (0, [.ref (q 44), .int 0, .int 0])), ((r 100), .inr (12, mF r 0 0 0 0 0 0 0 0 0 0 0 0 0 (-1) 1)), ((r 1), .inl (kT, 240, .inl fT)), ((r 18), .inl (kU, 2, .inl (fun _ => 0))), ((r 24), .inl (kL, 5, .inl (fun _ => 0))), ((r 32), .inl (kN, 208, .inl (fun _ => 0)))]) (hS : va_S (fun q : Nat => s.heap.size ≤ q) s.heap H locs) (hl : lv_has ls 7 [(0, .ref b), (1, .ref (q 15)), (2, .ref (r 100)), (3, .ref qo), (4, .int 0)]) : W p l e room_1 s m #[Value.ref b] below meth c H locs 335 33214 (lw_Z below #[Value.ref b] s) (F0 m 1270 ls []) := by
  obtain ⟨hx, hb, hr, hml, hown0, hts, hX, hbl, hlocks, hgv⟩ := id C0
  have hown : s.vm.findClass RL = some m.cls := hown0
  have hA : ∀ q : Nat, s.heap.size ≤ q → (fun q : Nat => s.heap.size ≤ q) q := fun _ h => h
  have hbA : ¬ (fun q : Nat => s.heap.size ≤ q) b := Nat.not_le.mpr hbl
  have hiX11 : ∀ w ∈ u_ws RX11 TX11 17, w ∈ lw_tbl := in_X11
  have hiX12 : ∀ w ∈ u_ws RX12 TX12 54, w ∈ lw_tbl := in_X12
  refine lv_aload_n hx hb dL_law_1270 rfl (lv_at hl 1 rfl) ?_
  refine lv_aload_n hx hb dL_law_1271 rfl (lv_at hl 0 rfl) ?_
  refine lv_iload hx hb dL_law_1272 (lv_at hl 4 rfl) ?_
  refine lv_iconst (v := 1) hx hb dL_law_1274 (by decide) ?_
  refine lv_iadd hx hb dL_law_1275 ?_
  refine lv_topi (fun v_1 e_1 => ?_)
  obtain rfl : v_1 = 1 := by rw [e_1]; decide
  refine va_sld hx hb hX hbl hbA hS (i := 1) (vp_in_nI (n := 1) (by decide) (by decide)) dL_law_1276 ?_
  refine lv_topi (fun v_2 e_2 => ?_)
  obtain rfl : v_2 = xs 1 := by rw [e_2]; exact congrArg xs (by decide)
  have hPc := hP.sub (ws' := [((q 15), .inr (11, xF q 0 1)), ((q 1), .inr (5, [.int 0, .int 0, .int 0, .int 0, .ref (q 20), .ref (q 21), .ref (q 22), .ref (q 23)]))]) [0, 3] rfl
  have hDc := hD.sub (ws' := [((q 15), .inr (11, xF q 0 1)), ((q 1), .inr (5, [.int 0, .int 0, .int 0, .int 0, .ref (q 20), .ref (q 21), .ref (q 22), .ref (q 23)]))]) [0, 3] (by decide) rfl
  have hKc := hK.sub (tys' := []) [] rfl
  have hFc := va_free (wc := [((q 15), .inr (11, xF q 0 1)), ((q 1), .inr (5, [.int 0, .int 0, .int 0, .int 0, .ref (q 20), .ref (q 21), .ref (q 22), .ref (q 23)]))]) hD hS hA [0, 3] rfl
  refine va_calli (va_runV (As := [.int (xs 1)]) (rest := []) ⟨hx, hb, hml, hown, hts⟩ (f_X11_goes l dC dI H.size q ((xs 1))) (cwV 1 hts g_f_L_law_f_X11_goes rfl rfl rfl (by decide +kernel) ⟨Nat.le_of_ble_eq_true rfl, Nat.le_of_ble_eq_true rfl⟩) ⟨cW_blind, va_recv hKc hPc (ci := 11) (q0 := 0) rfl rfl, fun U hU hW => ⟨rfl, cW_use hU hW hPc hKc hDc hG⟩⟩ rfl rfl hl.1 rfl (lv_room (Nat.le_of_ble_eq_true rfl)) dL_law_1277 ⟨Nat.le_of_ble_eq_true rfl, Nat.le_of_ble_eq_true rfl⟩) hS (fun q _ h => hFc q h) hFc (fun r_3 u t H1 locs ht hvm hw hB hz1 hk1 hS => ?_)
  obtain ⟨hP, hD⟩ := va_join (wr := [((q 0), .inr (8, [.ref (q 16), .int 0, .int 0, .int 0])), ((q 16), .inl (kB, 240, .inl fB)), ((q 2), .inr (5, [.int 0, .int 0, .int 0, .int 0, .ref (q 24), .ref (q 25), .ref (q 26), .ref (q 27)])), ((q 24), .inl (kR, 2, .inl (fun _ => 0))), ((q 3), .inr (2, [.ref (q 0), .ref (q 28), .int 0])), ((q 4), .inr (3, [.ref (q 30), .ref (q 31), .ref (q 32), .int 0, .int 0, .int (-1), .int 0, .int 0, .int 0, .int 0, .int 0, .int 0])), ((q 5), .inr (9, [.ref (q 33), .ref (q 34), .ref (q 35), .int 0, .int 0])), ((q 8), .inr (7, [.ref (q 36), .ref (q 37), .ref (q 38), .ref (q 39), .int 0, .int 0])), ((q 9), .inr (6, [.int 0, .int 0, .int 0, .ref (q 40), .ref (q 41), .ref (q 42), .ref (q 43)])), ((q 11), .inr (0, [.ref (q 44), .int 0, .int 0])), ((r 100), .inr (12, mF r 0 0 0 0 0 0 0 0 0 0 0 0 0 (-1) 1)), ((r 1), .inl (kT, 240, .inl fT)), ((r 18), .inl (kU, 2, .inl (fun _ => 0))), ((r 24), .inl (kL, 5, .inl (fun _ => 0))), ((r 32), .inl (kN, 208, .inl (fun _ => 0)))]) (w1 := []) hP hD [0, 3] [1, 2, 4, 5, 6, 7, 8, 9, 10, 11, 12, 13, 14, 15, 16] rfl rfl (by decide) (by decide) hk1 hFc (va_P_nil H1) va_D_nil
  generalize H1 = H at hP hS ⊢
  have hP : va_P (dC, dI) vwCl [((q 0), .inr (8, [.ref (q 16), .int 0, .int 0, .int 0])), ((q 16), .inl (kB, 240, .inl fB)), ((q 2), .inr (5, [.int 0, .int 0, .int 0, .int 0, .ref (q 24), .ref (q 25), .ref (q 26), .ref (q 27)])), ((q 24), .inl (kR, 2, .inl (fun _ => 0))), ((q 3), .inr (2, [.ref (q 0), .ref (q 28), .int 0])), ((q 4), .inr (3, [.ref (q 30), .ref (q 31), .ref (q 32), .int 0, .int 0, .int (-1), .int 0, .int 0, .int 0, .int 0, .int 0, .int 0])), ((q 5), .inr (9, [.ref (q 33), .ref (q 34), .ref (q 35), .int 0, .int 0])), ((q 8), .inr (7, [.ref (q 36), .ref (q 37), .ref (q 38), .ref (q 39), .int 0, .int 0])), ((q 9), .inr (6, [.int 0, .int 0, .int 0, .ref (q 40), .ref (q 41), .ref (q 42), .ref (q 43)])), ((q 11), .inr (0, [.ref (q 44), .int 0, .int 0])), ((r 100), .inr (12, mF r 0 0 0 0 0 0 0 0 0 0 0 0 0 (-1) 1)), ((r 1), .inl (kT, 240, .inl fT)), ((r 18), .inl (kU, 2, .inl (fun _ => 0))), ((r 24), .inl (kL, 5, .inl (fun _ => 0))), ((r 32), .inl (kN, 208, .inl (fun _ => 0)))] H := hP
  have hD : va_D (fun q : Nat => s.heap.size ≤ q) [((q 0), .inr (8, [.ref (q 16), .int 0, .int 0, .int 0])), ((q 16), .inl (kB, 240, .inl fB)), ((q 2), .inr (5, [.int 0, .int 0, .int 0, .int 0, .ref (q 24), .ref (q 25), .ref (q 26), .ref (q 27)])), ((q 24), .inl (kR, 2, .inl (fun _ => 0))), ((q 3), .inr (2, [.ref (q 0), .ref (q 28), .int 0])), ((q 4), .inr (3, [.ref (q 30), .ref (q 31), .ref (q 32), .int 0, .int 0, .int (-1), .int 0, .int 0, .int 0, .int 0, .int 0, .int 0])), ((q 5), .inr (9, [.ref (q 33), .ref (q 34), .ref (q 35), .int 0, .int 0])), ((q 8), .inr (7, [.ref (q 36), .ref (q 37), .ref (q 38), .ref (q 39), .int 0, .int 0])), ((q 9), .inr (6, [.int 0, .int 0, .int 0, .ref (q 40), .ref (q 41), .ref (q 42), .ref (q 43)])), ((q 11), .inr (0, [.ref (q 44), .int 0, .int 0])), ((r 100), .inr (12, mF r 0 0 0 0 0 0 0 0 0 0 0 0 0 (-1) 1)), ((r 1), .inl (kT, 240, .inl fT)), ((r 18), .inl (kU, 2, .inl (fun _ => 0))), ((r 24), .inl (kL, 5, .inl (fun _ => 0))), ((r 32), .inl (kN, 208, .inl (fun _ => 0)))] := hD
  refine W.widen (k := 335) (n := 33214) (Nat.le_of_ble_eq_true rfl) (Nat.le_of_ble_eq_true rfl) ?_
  obtain rfl : r_3 = (-1) := hw
  refine lv_aload_n hx hb dL_law_1280 rfl (lv_at hl 2 rfl) ?_
  refine lv_aload_n hx hb dL_law_1281 rfl (lv_at hl 0 rfl) ?_
  refine lv_iload hx hb dL_law_1282 (lv_at hl 4 rfl) ?_
  refine lv_iconst (v := 1) hx hb dL_law_1284 (by decide) ?_
  refine lv_iadd hx hb dL_law_1285 ?_
  refine lv_topi (fun v_4 e_4 => ?_)
  obtain rfl : v_4 = 1 := by rw [e_4]; decide
  refine va_sld hx hb hX hbl hbA hS (i := 1) (vp_in_nI (n := 1) (by decide) (by decide)) dL_law_1286 ?_
  refine lv_topi (fun v_5 e_5 => ?_)
  obtain rfl : v_5 = xs 1 := by rw [e_5]; exact congrArg xs (by decide)
  have hPc := hP.sub (ws' := [((r 100), .inr (12, mF r 0 0 0 0 0 0 0 0 0 0 0 0 0 (-1) 1))]) [10] rfl
  have hDc := hD.sub (ws' := [((r 100), .inr (12, mF r 0 0 0 0 0 0 0 0 0 0 0 0 0 (-1) 1))]) [10] (by decide) rfl
  have hKc := hK.sub (tys' := []) [] rfl
  have hFc := va_free (wc := [((r 100), .inr (12, mF r 0 0 0 0 0 0 0 0 0 0 0 0 0 (-1) 1))]) hD hS hA [10] rfl
  refine va_calli (va_runV (As := [.int (xs 1)]) (rest := [.int (-1)]) ⟨hx, hb, hml, hown, hts⟩ (f_X12_goes l dC dI H.size r ((xs 1))) (cwV 1 hts g_f_L_law_f_X12_goes rfl rfl rfl (by decide +kernel) ⟨Nat.le_of_ble_eq_true rfl, Nat.le_of_ble_eq_true rfl⟩) ⟨cW_blind, va_recv hKc hPc (ci := 12) (q0 := 0) rfl rfl, fun U hU hW => ⟨rfl, cW_use hU hW hPc hKc hDc hG⟩⟩ rfl rfl hl.1 rfl (lv_room (Nat.le_of_ble_eq_true rfl)) dL_law_1287 ⟨Nat.le_of_ble_eq_true rfl, Nat.le_of_ble_eq_true rfl⟩) hS (fun q _ h => hFc q h) hFc (fun r_6 u t H1 locs ht hvm hw hB hz1 hk1 hS => ?_)
  obtain ⟨hP, hD⟩ := va_join (wr := [((q 0), .inr (8, [.ref (q 16), .int 0, .int 0, .int 0])), ((q 16), .inl (kB, 240, .inl fB)), ((q 2), .inr (5, [.int 0, .int 0, .int 0, .int 0, .ref (q 24), .ref (q 25), .ref (q 26), .ref (q 27)])), ((q 24), .inl (kR, 2, .inl (fun _ => 0))), ((q 3), .inr (2, [.ref (q 0), .ref (q 28), .int 0])), ((q 4), .inr (3, [.ref (q 30), .ref (q 31), .ref (q 32), .int 0, .int 0, .int (-1), .int 0, .int 0, .int 0, .int 0, .int 0, .int 0])), ((q 5), .inr (9, [.ref (q 33), .ref (q 34), .ref (q 35), .int 0, .int 0])), ((q 8), .inr (7, [.ref (q 36), .ref (q 37), .ref (q 38), .ref (q 39), .int 0, .int 0])), ((q 9), .inr (6, [.int 0, .int 0, .int 0, .ref (q 40), .ref (q 41), .ref (q 42), .ref (q 43)])), ((q 11), .inr (0, [.ref (q 44), .int 0, .int 0])), ((r 1), .inl (kT, 240, .inl fT)), ((r 18), .inl (kU, 2, .inl (fun _ => 0))), ((r 24), .inl (kL, 5, .inl (fun _ => 0))), ((r 32), .inl (kN, 208, .inl (fun _ => 0)))]) (w1 := []) hP hD [10] [0, 1, 2, 3, 4, 5, 6, 7, 8, 9, 11, 12, 13, 14] rfl rfl (by decide) (by decide) hk1 hFc (va_P_nil H1) va_D_nil
  generalize H1 = H at hP hS ⊢
  have hP : va_P (dC, dI) vwCl [((q 0), .inr (8, [.ref (q 16), .int 0, .int 0, .int 0])), ((q 16), .inl (kB, 240, .inl fB)), ((q 2), .inr (5, [.int 0, .int 0, .int 0, .int 0, .ref (q 24), .ref (q 25), .ref (q 26), .ref (q 27)])), ((q 24), .inl (kR, 2, .inl (fun _ => 0))), ((q 3), .inr (2, [.ref (q 0), .ref (q 28), .int 0])), ((q 4), .inr (3, [.ref (q 30), .ref (q 31), .ref (q 32), .int 0, .int 0, .int (-1), .int 0, .int 0, .int 0, .int 0, .int 0, .int 0])), ((q 5), .inr (9, [.ref (q 33), .ref (q 34), .ref (q 35), .int 0, .int 0])), ((q 8), .inr (7, [.ref (q 36), .ref (q 37), .ref (q 38), .ref (q 39), .int 0, .int 0])), ((q 9), .inr (6, [.int 0, .int 0, .int 0, .ref (q 40), .ref (q 41), .ref (q 42), .ref (q 43)])), ((q 11), .inr (0, [.ref (q 44), .int 0, .int 0])), ((r 1), .inl (kT, 240, .inl fT)), ((r 18), .inl (kU, 2, .inl (fun _ => 0))), ((r 24), .inl (kL, 5, .inl (fun _ => 0))), ((r 32), .inl (kN, 208, .inl (fun _ => 0)))] H := hP
  have hD : va_D (fun q : Nat => s.heap.size ≤ q) [((q 0), .inr (8, [.ref (q 16), .int 0, .int 0, .int 0])), ((q 16), .inl (kB, 240, .inl fB)), ((q 2), .inr (5, [.int 0, .int 0, .int 0, .int 0, .ref (q 24), .ref (q 25), .ref (q 26), .ref (q 27)])), ((q 24), .inl (kR, 2, .inl (fun _ => 0))), ((q 3), .inr (2, [.ref (q 0), .ref (q 28), .int 0])), ((q 4), .inr (3, [.ref (q 30), .ref (q 31), .ref (q 32), .int 0, .int 0, .int (-1), .int 0, .int 0, .int 0, .int 0, .int 0, .int 0])), ((q 5), .inr (9, [.ref (q 33), .ref (q 34), .ref (q 35), .int 0, .int 0])), ((q 8), .inr (7, [.ref (q 36), .ref (q 37), .ref (q 38), .ref (q 39), .int 0, .int 0])), ((q 9), .inr (6, [.int 0, .int 0, .int 0, .ref (q 40), .ref (q 41), .ref (q 42), .ref (q 43)])), ((q 11), .inr (0, [.ref (q 44), .int 0, .int 0])), ((r 1), .inl (kT, 240, .inl fT)), ((r 18), .inl (kU, 2, .inl (fun _ => 0))), ((r 24), .inl (kL, 5, .inl (fun _ => 0))), ((r 32), .inl (kN, 208, .inl (fun _ => 0)))] := hD
  refine W.widen (k := 335) (n := 33214) (Nat.le_of_ble_eq_true rfl) (Nat.le_of_ble_eq_true rfl) ?_
  obtain rfl : r_6 = (-1) := hw
  refine lv_icmp_eq (tgt := 1629) hx hb dL_law_1290 (by decide) (fun c_7 => ?_) (fun c_7 => absurd (by decide) c_7)
  exact lc_exit C0 hS (by decide) (by decide) ls (lv_sub hl [0, 4] rfl)
set_option maxHeartbeats 4000000 in
set_option maxRecDepth 100000 in
theorem lc_32 {p : Program} {l : Launch} {e : Env} {s : State} {m : MethodId} {below : List Frame} {meth : Method} {c : Code} {b : Nat} {xs : Nat → Int32} {H : Heap} {locs : List Loc} {ls : Array Slot} {dC : Nat → ClassId} {dI : Nat → Nat → Nat} {sk sv : Nat → Nat} {s2 tz s3 : Nat} (q r : Nat → Nat) (kB : ClassId) (kR : ClassId) (kT : ClassId) (kU : ClassId) (kL : ClassId) (kN : ClassId) (fB fT : Nat → Int32) (qo : Nat) (hlt : l.stackTraces = false) (C0 : lw_At p s m meth c b 6 xs) (hG : gxP s) (hE : exP sk sv s2 tz (fun q : Nat => s.heap.size ≤ q) s s.heap) (hT : tP s3 (fun q : Nat => s.heap.size ≤ q) s s.heap) (hK : va_K (dC, dI) vwCl [(kB, .int), (kR, .int), (kT, .byte), (kU, .int), (kL, .int), (kN, .int)] s) (hP : va_P (dC, dI) vwCl [((q 15), .inr (11, xF q 0 1)), ((q 0), .inr (8, [.ref (q 16), .int 0, .int 0, .int 0])), ((q 16), .inl (kB, 240, .inl fB)), ((q 1), .inr (5, [.int 0, .int 0, .int 0, .int 0, .ref (q 20), .ref (q 21), .ref (q 22), .ref (q 23)])), ((q 2), .inr (5, [.int 0, .int 0, .int 0, .int 0, .ref (q 24), .ref (q 25), .ref (q 26), .ref (q 27)])), ((q 24), .inl (kR, 2, .inl (fun _ => 0))), ((q 3), .inr (2, [.ref (q 0), .ref (q 28), .int 0])), ((q 4), .inr (3, [.ref (q 30), .ref (q 31), .ref (q 32), .int 0, .int 0, .int (-1), .int 0, .int 0, .int 0, .int 0, .int 0, .int 0])), ((q 5), .inr (9, [.ref (q 33), .ref (q 34), .ref (q 35), .int 0, .int 0])), ((q 8), .inr (7, [.ref (q 36), .ref (q 37), .ref (q 38), .ref (q 39), .int 0, .int 0])), ((q 9), .inr (6, [.int 0, .int 0, .int 0, .ref (q 40), .ref (q 41), .ref (q 42), .ref (q 43)])), ((q 11), .inr (0, [.ref (q 44), .int 0, .int 0])), ((r 100), .inr (12, mF r 0 0 0 0 0 0 0 0 0 0 0 0 0 (-1) 1)), ((r 1), .inl (kT, 240, .inl fT)), ((r 18), .inl (kU, 2, .inl (fun _ => 0))), ((r 24), .inl (kL, 5, .inl (fun _ => 0))), ((r 32), .inl (kN, 208, .inl (fun _ => 0)))] H) (hD : va_D (fun q : Nat => s.heap.size ≤ q) [((q 15), .inr (11, xF q 0 1)), ((q 0), .inr (8, [.ref (q 16), .int 0, .int 0, .int 0])), ((q 16), .inl (kB, 240, .inl fB)), ((q 1), .inr (5, [.int 0, .int 0, .int 0, .int 0, .ref (q 20), .ref (q 21), .ref (q 22), .ref (q 23)])), ((q 2), .inr (5, [.int 0, .int 0, .int 0, .int 0, .ref (q 24), .ref (q 25), .ref (q 26), .ref (q 27)])), ((q 24), .inl (kR, 2, .inl (fun _ => 0))), ((q 3), .inr (2, [.ref (q 0), .ref (q 28), .int 0])), ((q 4), .inr (3, [.ref (q 30), .ref (q 31), .ref (q 32), .int 0, .int 0, .int (-1), .int 0, .int 0, .int 0, .int 0, .int 0, .int 0])), ((q 5), .inr (9, [.ref (q 33), .ref (q 34), .ref (q 35), .int 0, .int 0])), ((q 8), .inr (7, [.ref (q 36), .ref (q 37), .ref (q 38), .ref (q 39), .int 0, .int 0])), ((q 9), .inr (6, [.int 0, .int 0, .int 0, .ref (q 40), .ref (q 41), .ref (q 42), .ref (q 43)])), ((q 11), .inr (0, [.ref (q 44), .int 0, .int 0])), ((r 100), .inr (12, mF r 0 0 0 0 0 0 0 0 0 0 0 0 0 (-1) 1)), ((r 1), .inl (kT, 240, .inl fT)), ((r 18), .inl (kU, 2, .inl (fun _ => 0))), ((r 24), .inl (kL, 5, .inl (fun _ => 0))), ((r 32), .inl (kN, 208, .inl (fun _ => 0)))]) (hS : va_S (fun q : Nat => s.heap.size ≤ q) s.heap H locs) (hl : lv_has ls 7 [(0, .ref b), (1, .ref (q 15)), (2, .ref (r 100)), (3, .ref qo), (4, .int 0)]) : W p l e room_1 s m #[Value.ref b] below meth c H locs 335 33214 (lw_Z below #[Value.ref b] s) (F0 m 1295 ls []) := by
  obtain ⟨hx, hb, hr, hml, hown0, hts, hX, hbl, hlocks, hgv⟩ := id C0
  have hown : s.vm.findClass RL = some m.cls := hown0
  have hA : ∀ q : Nat, s.heap.size ≤ q → (fun q : Nat => s.heap.size ≤ q) q := fun _ h => h
  have hbA : ¬ (fun q : Nat => s.heap.size ≤ q) b := Nat.not_le.mpr hbl
  have hiX11 : ∀ w ∈ u_ws RX11 TX11 17, w ∈ lw_tbl := in_X11
  have hiX12 : ∀ w ∈ u_ws RX12 TX12 54, w ∈ lw_tbl := in_X12
  refine lv_aload_n hx hb dL_law_1295 rfl (lv_at hl 1 rfl) ?_
  refine lv_aload_n hx hb dL_law_1296 rfl (lv_at hl 0 rfl) ?_
  refine lv_iload hx hb dL_law_1297 (lv_at hl 4 rfl) ?_
  refine lv_iconst (v := 1) hx hb dL_law_1299 (by decide) ?_
  refine lv_iadd hx hb dL_law_1300 ?_
  refine lv_topi (fun v_1 e_1 => ?_)
  obtain rfl : v_1 = 1 := by rw [e_1]; decide
  refine va_sld hx hb hX hbl hbA hS (i := 1) (vp_in_nI (n := 1) (by decide) (by decide)) dL_law_1301 ?_
  refine lv_topi (fun v_2 e_2 => ?_)
  obtain rfl : v_2 = xs 1 := by rw [e_2]; exact congrArg xs (by decide)
  have hPc := hP.sub (ws' := [((q 15), .inr (11, xF q 0 1)), ((q 1), .inr (5, [.int 0, .int 0, .int 0, .int 0, .ref (q 20), .ref (q 21), .ref (q 22), .ref (q 23)]))]) [0, 3] rfl
  have hDc := hD.sub (ws' := [((q 15), .inr (11, xF q 0 1)), ((q 1), .inr (5, [.int 0, .int 0, .int 0, .int 0, .ref (q 20), .ref (q 21), .ref (q 22), .ref (q 23)]))]) [0, 3] (by decide) rfl
  have hKc := hK.sub (tys' := []) [] rfl
  have hFc := va_free (wc := [((q 15), .inr (11, xF q 0 1)), ((q 1), .inr (5, [.int 0, .int 0, .int 0, .int 0, .ref (q 20), .ref (q 21), .ref (q 22), .ref (q 23)]))]) hD hS hA [0, 3] rfl
  refine va_calli (va_runV (As := [.int (xs 1)]) (rest := []) ⟨hx, hb, hml, hown, hts⟩ (f_X11_goers l dC dI H.size q ((xs 1))) (cwV 1 hts g_f_L_law_f_X11_goers rfl rfl rfl (by decide +kernel) ⟨Nat.le_of_ble_eq_true rfl, Nat.le_of_ble_eq_true rfl⟩) ⟨cW_blind, va_recv hKc hPc (ci := 11) (q0 := 0) rfl rfl, fun U hU hW => ⟨rfl, cW_use hU hW hPc hKc hDc hG⟩⟩ rfl rfl hl.1 rfl (lv_room (Nat.le_of_ble_eq_true rfl)) dL_law_1302 ⟨Nat.le_of_ble_eq_true rfl, Nat.le_of_ble_eq_true rfl⟩) hS (fun q _ h => hFc q h) hFc (fun r_3 u t H1 locs ht hvm hw hB hz1 hk1 hS => ?_)
  obtain ⟨hP, hD⟩ := va_join (wr := [((q 0), .inr (8, [.ref (q 16), .int 0, .int 0, .int 0])), ((q 16), .inl (kB, 240, .inl fB)), ((q 2), .inr (5, [.int 0, .int 0, .int 0, .int 0, .ref (q 24), .ref (q 25), .ref (q 26), .ref (q 27)])), ((q 24), .inl (kR, 2, .inl (fun _ => 0))), ((q 3), .inr (2, [.ref (q 0), .ref (q 28), .int 0])), ((q 4), .inr (3, [.ref (q 30), .ref (q 31), .ref (q 32), .int 0, .int 0, .int (-1), .int 0, .int 0, .int 0, .int 0, .int 0, .int 0])), ((q 5), .inr (9, [.ref (q 33), .ref (q 34), .ref (q 35), .int 0, .int 0])), ((q 8), .inr (7, [.ref (q 36), .ref (q 37), .ref (q 38), .ref (q 39), .int 0, .int 0])), ((q 9), .inr (6, [.int 0, .int 0, .int 0, .ref (q 40), .ref (q 41), .ref (q 42), .ref (q 43)])), ((q 11), .inr (0, [.ref (q 44), .int 0, .int 0])), ((r 100), .inr (12, mF r 0 0 0 0 0 0 0 0 0 0 0 0 0 (-1) 1)), ((r 1), .inl (kT, 240, .inl fT)), ((r 18), .inl (kU, 2, .inl (fun _ => 0))), ((r 24), .inl (kL, 5, .inl (fun _ => 0))), ((r 32), .inl (kN, 208, .inl (fun _ => 0)))]) (w1 := []) hP hD [0, 3] [1, 2, 4, 5, 6, 7, 8, 9, 10, 11, 12, 13, 14, 15, 16] rfl rfl (by decide) (by decide) hk1 hFc (va_P_nil H1) va_D_nil
  generalize H1 = H at hP hS ⊢
  have hP : va_P (dC, dI) vwCl [((q 0), .inr (8, [.ref (q 16), .int 0, .int 0, .int 0])), ((q 16), .inl (kB, 240, .inl fB)), ((q 2), .inr (5, [.int 0, .int 0, .int 0, .int 0, .ref (q 24), .ref (q 25), .ref (q 26), .ref (q 27)])), ((q 24), .inl (kR, 2, .inl (fun _ => 0))), ((q 3), .inr (2, [.ref (q 0), .ref (q 28), .int 0])), ((q 4), .inr (3, [.ref (q 30), .ref (q 31), .ref (q 32), .int 0, .int 0, .int (-1), .int 0, .int 0, .int 0, .int 0, .int 0, .int 0])), ((q 5), .inr (9, [.ref (q 33), .ref (q 34), .ref (q 35), .int 0, .int 0])), ((q 8), .inr (7, [.ref (q 36), .ref (q 37), .ref (q 38), .ref (q 39), .int 0, .int 0])), ((q 9), .inr (6, [.int 0, .int 0, .int 0, .ref (q 40), .ref (q 41), .ref (q 42), .ref (q 43)])), ((q 11), .inr (0, [.ref (q 44), .int 0, .int 0])), ((r 100), .inr (12, mF r 0 0 0 0 0 0 0 0 0 0 0 0 0 (-1) 1)), ((r 1), .inl (kT, 240, .inl fT)), ((r 18), .inl (kU, 2, .inl (fun _ => 0))), ((r 24), .inl (kL, 5, .inl (fun _ => 0))), ((r 32), .inl (kN, 208, .inl (fun _ => 0)))] H := hP
  have hD : va_D (fun q : Nat => s.heap.size ≤ q) [((q 0), .inr (8, [.ref (q 16), .int 0, .int 0, .int 0])), ((q 16), .inl (kB, 240, .inl fB)), ((q 2), .inr (5, [.int 0, .int 0, .int 0, .int 0, .ref (q 24), .ref (q 25), .ref (q 26), .ref (q 27)])), ((q 24), .inl (kR, 2, .inl (fun _ => 0))), ((q 3), .inr (2, [.ref (q 0), .ref (q 28), .int 0])), ((q 4), .inr (3, [.ref (q 30), .ref (q 31), .ref (q 32), .int 0, .int 0, .int (-1), .int 0, .int 0, .int 0, .int 0, .int 0, .int 0])), ((q 5), .inr (9, [.ref (q 33), .ref (q 34), .ref (q 35), .int 0, .int 0])), ((q 8), .inr (7, [.ref (q 36), .ref (q 37), .ref (q 38), .ref (q 39), .int 0, .int 0])), ((q 9), .inr (6, [.int 0, .int 0, .int 0, .ref (q 40), .ref (q 41), .ref (q 42), .ref (q 43)])), ((q 11), .inr (0, [.ref (q 44), .int 0, .int 0])), ((r 100), .inr (12, mF r 0 0 0 0 0 0 0 0 0 0 0 0 0 (-1) 1)), ((r 1), .inl (kT, 240, .inl fT)), ((r 18), .inl (kU, 2, .inl (fun _ => 0))), ((r 24), .inl (kL, 5, .inl (fun _ => 0))), ((r 32), .inl (kN, 208, .inl (fun _ => 0)))] := hD
  refine W.widen (k := 335) (n := 33214) (Nat.le_of_ble_eq_true rfl) (Nat.le_of_ble_eq_true rfl) ?_
  obtain rfl : r_3 = (-1) := hw
  refine lv_aload_n hx hb dL_law_1305 rfl (lv_at hl 2 rfl) ?_
  refine lv_aload_n hx hb dL_law_1306 rfl (lv_at hl 0 rfl) ?_
  refine lv_iload hx hb dL_law_1307 (lv_at hl 4 rfl) ?_
  refine lv_iconst (v := 1) hx hb dL_law_1309 (by decide) ?_
  refine lv_iadd hx hb dL_law_1310 ?_
  refine lv_topi (fun v_4 e_4 => ?_)
  obtain rfl : v_4 = 1 := by rw [e_4]; decide
  refine va_sld hx hb hX hbl hbA hS (i := 1) (vp_in_nI (n := 1) (by decide) (by decide)) dL_law_1311 ?_
  refine lv_topi (fun v_5 e_5 => ?_)
  obtain rfl : v_5 = xs 1 := by rw [e_5]; exact congrArg xs (by decide)
  have hPc := hP.sub (ws' := [((r 100), .inr (12, mF r 0 0 0 0 0 0 0 0 0 0 0 0 0 (-1) 1))]) [10] rfl
  have hDc := hD.sub (ws' := [((r 100), .inr (12, mF r 0 0 0 0 0 0 0 0 0 0 0 0 0 (-1) 1))]) [10] (by decide) rfl
  have hKc := hK.sub (tys' := []) [] rfl
  have hFc := va_free (wc := [((r 100), .inr (12, mF r 0 0 0 0 0 0 0 0 0 0 0 0 0 (-1) 1))]) hD hS hA [10] rfl
  refine va_calli (va_runV (As := [.int (xs 1)]) (rest := [.int (-1)]) ⟨hx, hb, hml, hown, hts⟩ (f_X12_goers l dC dI H.size r ((xs 1))) (cwV 1 hts g_f_L_law_f_X12_goers rfl rfl rfl (by decide +kernel) ⟨Nat.le_of_ble_eq_true rfl, Nat.le_of_ble_eq_true rfl⟩) ⟨cW_blind, va_recv hKc hPc (ci := 12) (q0 := 0) rfl rfl, fun U hU hW => ⟨rfl, cW_use hU hW hPc hKc hDc hG⟩⟩ rfl rfl hl.1 rfl (lv_room (Nat.le_of_ble_eq_true rfl)) dL_law_1312 ⟨Nat.le_of_ble_eq_true rfl, Nat.le_of_ble_eq_true rfl⟩) hS (fun q _ h => hFc q h) hFc (fun r_6 u t H1 locs ht hvm hw hB hz1 hk1 hS => ?_)
  obtain ⟨hP, hD⟩ := va_join (wr := [((q 0), .inr (8, [.ref (q 16), .int 0, .int 0, .int 0])), ((q 16), .inl (kB, 240, .inl fB)), ((q 2), .inr (5, [.int 0, .int 0, .int 0, .int 0, .ref (q 24), .ref (q 25), .ref (q 26), .ref (q 27)])), ((q 24), .inl (kR, 2, .inl (fun _ => 0))), ((q 3), .inr (2, [.ref (q 0), .ref (q 28), .int 0])), ((q 4), .inr (3, [.ref (q 30), .ref (q 31), .ref (q 32), .int 0, .int 0, .int (-1), .int 0, .int 0, .int 0, .int 0, .int 0, .int 0])), ((q 5), .inr (9, [.ref (q 33), .ref (q 34), .ref (q 35), .int 0, .int 0])), ((q 8), .inr (7, [.ref (q 36), .ref (q 37), .ref (q 38), .ref (q 39), .int 0, .int 0])), ((q 9), .inr (6, [.int 0, .int 0, .int 0, .ref (q 40), .ref (q 41), .ref (q 42), .ref (q 43)])), ((q 11), .inr (0, [.ref (q 44), .int 0, .int 0])), ((r 1), .inl (kT, 240, .inl fT)), ((r 18), .inl (kU, 2, .inl (fun _ => 0))), ((r 24), .inl (kL, 5, .inl (fun _ => 0))), ((r 32), .inl (kN, 208, .inl (fun _ => 0)))]) (w1 := []) hP hD [10] [0, 1, 2, 3, 4, 5, 6, 7, 8, 9, 11, 12, 13, 14] rfl rfl (by decide) (by decide) hk1 hFc (va_P_nil H1) va_D_nil
  generalize H1 = H at hP hS ⊢
  have hP : va_P (dC, dI) vwCl [((q 0), .inr (8, [.ref (q 16), .int 0, .int 0, .int 0])), ((q 16), .inl (kB, 240, .inl fB)), ((q 2), .inr (5, [.int 0, .int 0, .int 0, .int 0, .ref (q 24), .ref (q 25), .ref (q 26), .ref (q 27)])), ((q 24), .inl (kR, 2, .inl (fun _ => 0))), ((q 3), .inr (2, [.ref (q 0), .ref (q 28), .int 0])), ((q 4), .inr (3, [.ref (q 30), .ref (q 31), .ref (q 32), .int 0, .int 0, .int (-1), .int 0, .int 0, .int 0, .int 0, .int 0, .int 0])), ((q 5), .inr (9, [.ref (q 33), .ref (q 34), .ref (q 35), .int 0, .int 0])), ((q 8), .inr (7, [.ref (q 36), .ref (q 37), .ref (q 38), .ref (q 39), .int 0, .int 0])), ((q 9), .inr (6, [.int 0, .int 0, .int 0, .ref (q 40), .ref (q 41), .ref (q 42), .ref (q 43)])), ((q 11), .inr (0, [.ref (q 44), .int 0, .int 0])), ((r 1), .inl (kT, 240, .inl fT)), ((r 18), .inl (kU, 2, .inl (fun _ => 0))), ((r 24), .inl (kL, 5, .inl (fun _ => 0))), ((r 32), .inl (kN, 208, .inl (fun _ => 0)))] H := hP
  have hD : va_D (fun q : Nat => s.heap.size ≤ q) [((q 0), .inr (8, [.ref (q 16), .int 0, .int 0, .int 0])), ((q 16), .inl (kB, 240, .inl fB)), ((q 2), .inr (5, [.int 0, .int 0, .int 0, .int 0, .ref (q 24), .ref (q 25), .ref (q 26), .ref (q 27)])), ((q 24), .inl (kR, 2, .inl (fun _ => 0))), ((q 3), .inr (2, [.ref (q 0), .ref (q 28), .int 0])), ((q 4), .inr (3, [.ref (q 30), .ref (q 31), .ref (q 32), .int 0, .int 0, .int (-1), .int 0, .int 0, .int 0, .int 0, .int 0, .int 0])), ((q 5), .inr (9, [.ref (q 33), .ref (q 34), .ref (q 35), .int 0, .int 0])), ((q 8), .inr (7, [.ref (q 36), .ref (q 37), .ref (q 38), .ref (q 39), .int 0, .int 0])), ((q 9), .inr (6, [.int 0, .int 0, .int 0, .ref (q 40), .ref (q 41), .ref (q 42), .ref (q 43)])), ((q 11), .inr (0, [.ref (q 44), .int 0, .int 0])), ((r 1), .inl (kT, 240, .inl fT)), ((r 18), .inl (kU, 2, .inl (fun _ => 0))), ((r 24), .inl (kL, 5, .inl (fun _ => 0))), ((r 32), .inl (kN, 208, .inl (fun _ => 0)))] := hD
  refine W.widen (k := 335) (n := 33214) (Nat.le_of_ble_eq_true rfl) (Nat.le_of_ble_eq_true rfl) ?_
  obtain rfl : r_6 = (-1) := hw
  refine lv_icmp_eq (tgt := 1629) hx hb dL_law_1315 (by decide) (fun c_7 => ?_) (fun c_7 => absurd (by decide) c_7)
  exact lc_exit C0 hS (by decide) (by decide) ls (lv_sub hl [0, 4] rfl)
set_option maxHeartbeats 4000000 in
set_option maxRecDepth 100000 in
theorem lc_33 {p : Program} {l : Launch} {e : Env} {s : State} {m : MethodId} {below : List Frame} {meth : Method} {c : Code} {b : Nat} {xs : Nat → Int32} {H : Heap} {locs : List Loc} {ls : Array Slot} {dC : Nat → ClassId} {dI : Nat → Nat → Nat} {sk sv : Nat → Nat} {s2 tz s3 : Nat} (q r : Nat → Nat) (kB : ClassId) (kR : ClassId) (kT : ClassId) (kU : ClassId) (kL : ClassId) (kN : ClassId) (fB fT : Nat → Int32) (qo : Nat) (hlt : l.stackTraces = false) (C0 : lw_At p s m meth c b 6 xs) (hG : gxP s) (hE : exP sk sv s2 tz (fun q : Nat => s.heap.size ≤ q) s s.heap) (hT : tP s3 (fun q : Nat => s.heap.size ≤ q) s s.heap) (hK : va_K (dC, dI) vwCl [(kB, .int), (kR, .int), (kT, .byte), (kU, .int), (kL, .int), (kN, .int)] s) (hP : va_P (dC, dI) vwCl [((q 15), .inr (11, xF q 0 1)), ((q 0), .inr (8, [.ref (q 16), .int 0, .int 0, .int 0])), ((q 16), .inl (kB, 240, .inl fB)), ((q 1), .inr (5, [.int 0, .int 0, .int 0, .int 0, .ref (q 20), .ref (q 21), .ref (q 22), .ref (q 23)])), ((q 2), .inr (5, [.int 0, .int 0, .int 0, .int 0, .ref (q 24), .ref (q 25), .ref (q 26), .ref (q 27)])), ((q 24), .inl (kR, 2, .inl (fun _ => 0))), ((q 3), .inr (2, [.ref (q 0), .ref (q 28), .int 0])), ((q 4), .inr (3, [.ref (q 30), .ref (q 31), .ref (q 32), .int 0, .int 0, .int (-1), .int 0, .int 0, .int 0, .int 0, .int 0, .int 0])), ((q 5), .inr (9, [.ref (q 33), .ref (q 34), .ref (q 35), .int 0, .int 0])), ((q 8), .inr (7, [.ref (q 36), .ref (q 37), .ref (q 38), .ref (q 39), .int 0, .int 0])), ((q 9), .inr (6, [.int 0, .int 0, .int 0, .ref (q 40), .ref (q 41), .ref (q 42), .ref (q 43)])), ((q 11), .inr (0, [.ref (q 44), .int 0, .int 0])), ((r 100), .inr (12, mF r 0 0 0 0 0 0 0 0 0 0 0 0 0 (-1) 1)), ((r 1), .inl (kT, 240, .inl fT)), ((r 18), .inl (kU, 2, .inl (fun _ => 0))), ((r 24), .inl (kL, 5, .inl (fun _ => 0))), ((r 32), .inl (kN, 208, .inl (fun _ => 0)))] H) (hD : va_D (fun q : Nat => s.heap.size ≤ q) [((q 15), .inr (11, xF q 0 1)), ((q 0), .inr (8, [.ref (q 16), .int 0, .int 0, .int 0])), ((q 16), .inl (kB, 240, .inl fB)), ((q 1), .inr (5, [.int 0, .int 0, .int 0, .int 0, .ref (q 20), .ref (q 21), .ref (q 22), .ref (q 23)])), ((q 2), .inr (5, [.int 0, .int 0, .int 0, .int 0, .ref (q 24), .ref (q 25), .ref (q 26), .ref (q 27)])), ((q 24), .inl (kR, 2, .inl (fun _ => 0))), ((q 3), .inr (2, [.ref (q 0), .ref (q 28), .int 0])), ((q 4), .inr (3, [.ref (q 30), .ref (q 31), .ref (q 32), .int 0, .int 0, .int (-1), .int 0, .int 0, .int 0, .int 0, .int 0, .int 0])), ((q 5), .inr (9, [.ref (q 33), .ref (q 34), .ref (q 35), .int 0, .int 0])), ((q 8), .inr (7, [.ref (q 36), .ref (q 37), .ref (q 38), .ref (q 39), .int 0, .int 0])), ((q 9), .inr (6, [.int 0, .int 0, .int 0, .ref (q 40), .ref (q 41), .ref (q 42), .ref (q 43)])), ((q 11), .inr (0, [.ref (q 44), .int 0, .int 0])), ((r 100), .inr (12, mF r 0 0 0 0 0 0 0 0 0 0 0 0 0 (-1) 1)), ((r 1), .inl (kT, 240, .inl fT)), ((r 18), .inl (kU, 2, .inl (fun _ => 0))), ((r 24), .inl (kL, 5, .inl (fun _ => 0))), ((r 32), .inl (kN, 208, .inl (fun _ => 0)))]) (hS : va_S (fun q : Nat => s.heap.size ≤ q) s.heap H locs) (hl : lv_has ls 7 [(0, .ref b), (1, .ref (q 15)), (2, .ref (r 100)), (3, .ref qo), (4, .int 0)]) : W p l e room_1 s m #[Value.ref b] below meth c H locs 335 33214 (lw_Z below #[Value.ref b] s) (F0 m 1320 ls []) := by
  obtain ⟨hx, hb, hr, hml, hown0, hts, hX, hbl, hlocks, hgv⟩ := id C0
  have hown : s.vm.findClass RL = some m.cls := hown0
  have hA : ∀ q : Nat, s.heap.size ≤ q → (fun q : Nat => s.heap.size ≤ q) q := fun _ h => h
  have hbA : ¬ (fun q : Nat => s.heap.size ≤ q) b := Nat.not_le.mpr hbl
  have hiX11 : ∀ w ∈ u_ws RX11 TX11 17, w ∈ lw_tbl := in_X11
  have hiX12 : ∀ w ∈ u_ws RX12 TX12 54, w ∈ lw_tbl := in_X12
  refine lv_aload_n hx hb dL_law_1320 rfl (lv_at hl 1 rfl) ?_
  refine lv_aload_n hx hb dL_law_1321 rfl (lv_at hl 0 rfl) ?_
  refine lv_iload hx hb dL_law_1322 (lv_at hl 4 rfl) ?_
  refine lv_iconst (v := 1) hx hb dL_law_1324 (by decide) ?_
  refine lv_iadd hx hb dL_law_1325 ?_
  refine lv_topi (fun v_1 e_1 => ?_)
  obtain rfl : v_1 = 1 := by rw [e_1]; decide
  refine va_sld hx hb hX hbl hbA hS (i := 1) (vp_in_nI (n := 1) (by decide) (by decide)) dL_law_1326 ?_
  refine lv_topi (fun v_2 e_2 => ?_)
  obtain rfl : v_2 = xs 1 := by rw [e_2]; exact congrArg xs (by decide)
  refine lv_aload_n hx hb dL_law_1327 rfl (lv_at hl 0 rfl) ?_
  refine lv_iload hx hb dL_law_1328 (lv_at hl 4 rfl) ?_
  refine lv_iconst (v := 2) hx hb dL_law_1330 (by decide) ?_
  refine lv_iadd hx hb dL_law_1331 ?_
  refine lv_topi (fun v_3 e_3 => ?_)
  obtain rfl : v_3 = 2 := by rw [e_3]; decide
  refine va_sld hx hb hX hbl hbA hS (i := 2) (vp_in_nI (n := 2) (by decide) (by decide)) dL_law_1332 ?_
  refine lv_topi (fun v_4 e_4 => ?_)
  obtain rfl : v_4 = xs 2 := by rw [e_4]; exact congrArg xs (by decide)
  refine lv_aload_n hx hb dL_law_1333 rfl (lv_at hl 0 rfl) ?_
  refine lv_iload hx hb dL_law_1334 (lv_at hl 4 rfl) ?_
  refine lv_iconst (v := 3) hx hb dL_law_1336 (by decide) ?_
  refine lv_iadd hx hb dL_law_1337 ?_
  refine lv_topi (fun v_5 e_5 => ?_)
  obtain rfl : v_5 = 3 := by rw [e_5]; decide
  refine va_sld hx hb hX hbl hbA hS (i := 3) (vp_in_nI (n := 3) (by decide) (by decide)) dL_law_1338 ?_
  refine lv_topi (fun v_6 e_6 => ?_)
  obtain rfl : v_6 = xs 3 := by rw [e_6]; exact congrArg xs (by decide)
  refine lv_aload_n hx hb dL_law_1339 rfl (lv_at hl 0 rfl) ?_
  refine lv_iload hx hb dL_law_1340 (lv_at hl 4 rfl) ?_
  refine lv_iconst (v := 4) hx hb dL_law_1342 (by decide) ?_
  refine lv_iadd hx hb dL_law_1343 ?_
  refine lv_topi (fun v_7 e_7 => ?_)
  obtain rfl : v_7 = 4 := by rw [e_7]; decide
  refine va_sld hx hb hX hbl hbA hS (i := 4) (vp_in_nI (n := 4) (by decide) (by decide)) dL_law_1344 ?_
  refine lv_topi (fun v_8 e_8 => ?_)
  obtain rfl : v_8 = xs 4 := by rw [e_8]; exact congrArg xs (by decide)
  refine lv_aload_n hx hb dL_law_1345 rfl (lv_at hl 0 rfl) ?_
  refine lv_iload hx hb dL_law_1346 (lv_at hl 4 rfl) ?_
  refine lv_iconst (v := 5) hx hb dL_law_1348 (by decide) ?_
  refine lv_iadd hx hb dL_law_1349 ?_
  refine lv_topi (fun v_9 e_9 => ?_)
  obtain rfl : v_9 = 5 := by rw [e_9]; decide
  refine va_sld hx hb hX hbl hbA hS (i := 5) (vp_in_nI (n := 5) (by decide) (by decide)) dL_law_1350 ?_
  refine lv_topi (fun v_10 e_10 => ?_)
  obtain rfl : v_10 = xs 5 := by rw [e_10]; exact congrArg xs (by decide)
  have hPc := hP.sub (ws' := [((q 15), .inr (11, xF q 0 1)), ((q 1), .inr (5, [.int 0, .int 0, .int 0, .int 0, .ref (q 20), .ref (q 21), .ref (q 22), .ref (q 23)]))]) [0, 3] rfl
  have hDc := hD.sub (ws' := [((q 15), .inr (11, xF q 0 1)), ((q 1), .inr (5, [.int 0, .int 0, .int 0, .int 0, .ref (q 20), .ref (q 21), .ref (q 22), .ref (q 23)]))]) [0, 3] (by decide) rfl
  have hKc := hK.sub (tys' := []) [] rfl
  have hFc := va_free (wc := [((q 15), .inr (11, xF q 0 1)), ((q 1), .inr (5, [.int 0, .int 0, .int 0, .int 0, .ref (q 20), .ref (q 21), .ref (q 22), .ref (q 23)]))]) hD hS hA [0, 3] rfl
  refine va_calli (va_runV (As := [.int (xs 1), .int (xs 2), .int (xs 3), .int (xs 4), .int (xs 5)]) (rest := []) ⟨hx, hb, hml, hown, hts⟩ (f_X11_game l dC dI H.size q ((xs 1)) ((xs 2)) ((xs 3)) ((xs 4)) ((xs 5))) (cwV 5 hts g_f_L_law_f_X11_game rfl rfl rfl (by decide +kernel) ⟨Nat.le_of_ble_eq_true rfl, Nat.le_of_ble_eq_true rfl⟩) ⟨cW_blind, va_recv hKc hPc (ci := 11) (q0 := 0) rfl rfl, fun U hU hW => ⟨rfl, cW_use hU hW hPc hKc hDc hG⟩⟩ rfl rfl hl.1 rfl (lv_room (Nat.le_of_ble_eq_true rfl)) dL_law_1351 ⟨Nat.le_of_ble_eq_true rfl, Nat.le_of_ble_eq_true rfl⟩) hS (fun q _ h => hFc q h) hFc (fun r_11 u t H1 locs ht hvm hw hB hz1 hk1 hS => ?_)
  obtain ⟨hP, hD⟩ := va_join (wr := [((q 0), .inr (8, [.ref (q 16), .int 0, .int 0, .int 0])), ((q 16), .inl (kB, 240, .inl fB)), ((q 2), .inr (5, [.int 0, .int 0, .int 0, .int 0, .ref (q 24), .ref (q 25), .ref (q 26), .ref (q 27)])), ((q 24), .inl (kR, 2, .inl (fun _ => 0))), ((q 3), .inr (2, [.ref (q 0), .ref (q 28), .int 0])), ((q 4), .inr (3, [.ref (q 30), .ref (q 31), .ref (q 32), .int 0, .int 0, .int (-1), .int 0, .int 0, .int 0, .int 0, .int 0, .int 0])), ((q 5), .inr (9, [.ref (q 33), .ref (q 34), .ref (q 35), .int 0, .int 0])), ((q 8), .inr (7, [.ref (q 36), .ref (q 37), .ref (q 38), .ref (q 39), .int 0, .int 0])), ((q 9), .inr (6, [.int 0, .int 0, .int 0, .ref (q 40), .ref (q 41), .ref (q 42), .ref (q 43)])), ((q 11), .inr (0, [.ref (q 44), .int 0, .int 0])), ((r 100), .inr (12, mF r 0 0 0 0 0 0 0 0 0 0 0 0 0 (-1) 1)), ((r 1), .inl (kT, 240, .inl fT)), ((r 18), .inl (kU, 2, .inl (fun _ => 0))), ((r 24), .inl (kL, 5, .inl (fun _ => 0))), ((r 32), .inl (kN, 208, .inl (fun _ => 0)))]) (w1 := []) hP hD [0, 3] [1, 2, 4, 5, 6, 7, 8, 9, 10, 11, 12, 13, 14, 15, 16] rfl rfl (by decide) (by decide) hk1 hFc (va_P_nil H1) va_D_nil
  generalize H1 = H at hP hS ⊢
  have hP : va_P (dC, dI) vwCl [((q 0), .inr (8, [.ref (q 16), .int 0, .int 0, .int 0])), ((q 16), .inl (kB, 240, .inl fB)), ((q 2), .inr (5, [.int 0, .int 0, .int 0, .int 0, .ref (q 24), .ref (q 25), .ref (q 26), .ref (q 27)])), ((q 24), .inl (kR, 2, .inl (fun _ => 0))), ((q 3), .inr (2, [.ref (q 0), .ref (q 28), .int 0])), ((q 4), .inr (3, [.ref (q 30), .ref (q 31), .ref (q 32), .int 0, .int 0, .int (-1), .int 0, .int 0, .int 0, .int 0, .int 0, .int 0])), ((q 5), .inr (9, [.ref (q 33), .ref (q 34), .ref (q 35), .int 0, .int 0])), ((q 8), .inr (7, [.ref (q 36), .ref (q 37), .ref (q 38), .ref (q 39), .int 0, .int 0])), ((q 9), .inr (6, [.int 0, .int 0, .int 0, .ref (q 40), .ref (q 41), .ref (q 42), .ref (q 43)])), ((q 11), .inr (0, [.ref (q 44), .int 0, .int 0])), ((r 100), .inr (12, mF r 0 0 0 0 0 0 0 0 0 0 0 0 0 (-1) 1)), ((r 1), .inl (kT, 240, .inl fT)), ((r 18), .inl (kU, 2, .inl (fun _ => 0))), ((r 24), .inl (kL, 5, .inl (fun _ => 0))), ((r 32), .inl (kN, 208, .inl (fun _ => 0)))] H := hP
  have hD : va_D (fun q : Nat => s.heap.size ≤ q) [((q 0), .inr (8, [.ref (q 16), .int 0, .int 0, .int 0])), ((q 16), .inl (kB, 240, .inl fB)), ((q 2), .inr (5, [.int 0, .int 0, .int 0, .int 0, .ref (q 24), .ref (q 25), .ref (q 26), .ref (q 27)])), ((q 24), .inl (kR, 2, .inl (fun _ => 0))), ((q 3), .inr (2, [.ref (q 0), .ref (q 28), .int 0])), ((q 4), .inr (3, [.ref (q 30), .ref (q 31), .ref (q 32), .int 0, .int 0, .int (-1), .int 0, .int 0, .int 0, .int 0, .int 0, .int 0])), ((q 5), .inr (9, [.ref (q 33), .ref (q 34), .ref (q 35), .int 0, .int 0])), ((q 8), .inr (7, [.ref (q 36), .ref (q 37), .ref (q 38), .ref (q 39), .int 0, .int 0])), ((q 9), .inr (6, [.int 0, .int 0, .int 0, .ref (q 40), .ref (q 41), .ref (q 42), .ref (q 43)])), ((q 11), .inr (0, [.ref (q 44), .int 0, .int 0])), ((r 100), .inr (12, mF r 0 0 0 0 0 0 0 0 0 0 0 0 0 (-1) 1)), ((r 1), .inl (kT, 240, .inl fT)), ((r 18), .inl (kU, 2, .inl (fun _ => 0))), ((r 24), .inl (kL, 5, .inl (fun _ => 0))), ((r 32), .inl (kN, 208, .inl (fun _ => 0)))] := hD
  refine W.widen (k := 335) (n := 33214) (Nat.le_of_ble_eq_true rfl) (Nat.le_of_ble_eq_true rfl) ?_
  obtain rfl : r_11 = (-1000000) := hw
  refine lv_aload_n hx hb dL_law_1354 rfl (lv_at hl 2 rfl) ?_
  refine lv_aload_n hx hb dL_law_1355 rfl (lv_at hl 0 rfl) ?_
  refine lv_iload hx hb dL_law_1356 (lv_at hl 4 rfl) ?_
  refine lv_iconst (v := 1) hx hb dL_law_1358 (by decide) ?_
  refine lv_iadd hx hb dL_law_1359 ?_
  refine lv_topi (fun v_12 e_12 => ?_)
  obtain rfl : v_12 = 1 := by rw [e_12]; decide
  refine va_sld hx hb hX hbl hbA hS (i := 1) (vp_in_nI (n := 1) (by decide) (by decide)) dL_law_1360 ?_
  refine lv_topi (fun v_13 e_13 => ?_)
  obtain rfl : v_13 = xs 1 := by rw [e_13]; exact congrArg xs (by decide)
  refine lv_aload_n hx hb dL_law_1361 rfl (lv_at hl 0 rfl) ?_
  refine lv_iload hx hb dL_law_1362 (lv_at hl 4 rfl) ?_
  refine lv_iconst (v := 2) hx hb dL_law_1364 (by decide) ?_
  refine lv_iadd hx hb dL_law_1365 ?_
  refine lv_topi (fun v_14 e_14 => ?_)
  obtain rfl : v_14 = 2 := by rw [e_14]; decide
  refine va_sld hx hb hX hbl hbA hS (i := 2) (vp_in_nI (n := 2) (by decide) (by decide)) dL_law_1366 ?_
  refine lv_topi (fun v_15 e_15 => ?_)
  obtain rfl : v_15 = xs 2 := by rw [e_15]; exact congrArg xs (by decide)
  refine lv_aload_n hx hb dL_law_1367 rfl (lv_at hl 0 rfl) ?_
  refine lv_iload hx hb dL_law_1368 (lv_at hl 4 rfl) ?_
  refine lv_iconst (v := 3) hx hb dL_law_1370 (by decide) ?_
  refine lv_iadd hx hb dL_law_1371 ?_
  refine lv_topi (fun v_16 e_16 => ?_)
  obtain rfl : v_16 = 3 := by rw [e_16]; decide
  refine va_sld hx hb hX hbl hbA hS (i := 3) (vp_in_nI (n := 3) (by decide) (by decide)) dL_law_1372 ?_
  refine lv_topi (fun v_17 e_17 => ?_)
  obtain rfl : v_17 = xs 3 := by rw [e_17]; exact congrArg xs (by decide)
  refine lv_aload_n hx hb dL_law_1373 rfl (lv_at hl 0 rfl) ?_
  refine lv_iload hx hb dL_law_1374 (lv_at hl 4 rfl) ?_
  refine lv_iconst (v := 4) hx hb dL_law_1376 (by decide) ?_
  refine lv_iadd hx hb dL_law_1377 ?_
  refine lv_topi (fun v_18 e_18 => ?_)
  obtain rfl : v_18 = 4 := by rw [e_18]; decide
  refine va_sld hx hb hX hbl hbA hS (i := 4) (vp_in_nI (n := 4) (by decide) (by decide)) dL_law_1378 ?_
  refine lv_topi (fun v_19 e_19 => ?_)
  obtain rfl : v_19 = xs 4 := by rw [e_19]; exact congrArg xs (by decide)
  refine lv_aload_n hx hb dL_law_1379 rfl (lv_at hl 0 rfl) ?_
  refine lv_iload hx hb dL_law_1380 (lv_at hl 4 rfl) ?_
  refine lv_iconst (v := 5) hx hb dL_law_1382 (by decide) ?_
  refine lv_iadd hx hb dL_law_1383 ?_
  refine lv_topi (fun v_20 e_20 => ?_)
  obtain rfl : v_20 = 5 := by rw [e_20]; decide
  refine va_sld hx hb hX hbl hbA hS (i := 5) (vp_in_nI (n := 5) (by decide) (by decide)) dL_law_1384 ?_
  refine lv_topi (fun v_21 e_21 => ?_)
  obtain rfl : v_21 = xs 5 := by rw [e_21]; exact congrArg xs (by decide)
  have hPc := hP.sub (ws' := [((r 100), .inr (12, mF r 0 0 0 0 0 0 0 0 0 0 0 0 0 (-1) 1))]) [10] rfl
  have hDc := hD.sub (ws' := [((r 100), .inr (12, mF r 0 0 0 0 0 0 0 0 0 0 0 0 0 (-1) 1))]) [10] (by decide) rfl
  have hKc := hK.sub (tys' := []) [] rfl
  have hFc := va_free (wc := [((r 100), .inr (12, mF r 0 0 0 0 0 0 0 0 0 0 0 0 0 (-1) 1))]) hD hS hA [10] rfl
  refine va_calli (va_runV (As := [.int (xs 1), .int (xs 2), .int (xs 3), .int (xs 4), .int (xs 5)]) (rest := [.int (-1000000)]) ⟨hx, hb, hml, hown, hts⟩ (f_X12_game l dC dI H.size r ((xs 1)) ((xs 2)) ((xs 3)) ((xs 4)) ((xs 5))) (cwV 5 hts g_f_L_law_f_X12_game rfl rfl rfl (by decide +kernel) ⟨Nat.le_of_ble_eq_true rfl, Nat.le_of_ble_eq_true rfl⟩) ⟨cW_blind, va_recv hKc hPc (ci := 12) (q0 := 0) rfl rfl, fun U hU hW => ⟨rfl, cW_use hU hW hPc hKc hDc hG⟩⟩ rfl rfl hl.1 rfl (lv_room (Nat.le_of_ble_eq_true rfl)) dL_law_1385 ⟨Nat.le_of_ble_eq_true rfl, Nat.le_of_ble_eq_true rfl⟩) hS (fun q _ h => hFc q h) hFc (fun r_22 u t H1 locs ht hvm hw hB hz1 hk1 hS => ?_)
  obtain ⟨hP, hD⟩ := va_join (wr := [((q 0), .inr (8, [.ref (q 16), .int 0, .int 0, .int 0])), ((q 16), .inl (kB, 240, .inl fB)), ((q 2), .inr (5, [.int 0, .int 0, .int 0, .int 0, .ref (q 24), .ref (q 25), .ref (q 26), .ref (q 27)])), ((q 24), .inl (kR, 2, .inl (fun _ => 0))), ((q 3), .inr (2, [.ref (q 0), .ref (q 28), .int 0])), ((q 4), .inr (3, [.ref (q 30), .ref (q 31), .ref (q 32), .int 0, .int 0, .int (-1), .int 0, .int 0, .int 0, .int 0, .int 0, .int 0])), ((q 5), .inr (9, [.ref (q 33), .ref (q 34), .ref (q 35), .int 0, .int 0])), ((q 8), .inr (7, [.ref (q 36), .ref (q 37), .ref (q 38), .ref (q 39), .int 0, .int 0])), ((q 9), .inr (6, [.int 0, .int 0, .int 0, .ref (q 40), .ref (q 41), .ref (q 42), .ref (q 43)])), ((q 11), .inr (0, [.ref (q 44), .int 0, .int 0])), ((r 1), .inl (kT, 240, .inl fT)), ((r 18), .inl (kU, 2, .inl (fun _ => 0))), ((r 24), .inl (kL, 5, .inl (fun _ => 0))), ((r 32), .inl (kN, 208, .inl (fun _ => 0)))]) (w1 := []) hP hD [10] [0, 1, 2, 3, 4, 5, 6, 7, 8, 9, 11, 12, 13, 14] rfl rfl (by decide) (by decide) hk1 hFc (va_P_nil H1) va_D_nil
  generalize H1 = H at hP hS ⊢
  have hP : va_P (dC, dI) vwCl [((q 0), .inr (8, [.ref (q 16), .int 0, .int 0, .int 0])), ((q 16), .inl (kB, 240, .inl fB)), ((q 2), .inr (5, [.int 0, .int 0, .int 0, .int 0, .ref (q 24), .ref (q 25), .ref (q 26), .ref (q 27)])), ((q 24), .inl (kR, 2, .inl (fun _ => 0))), ((q 3), .inr (2, [.ref (q 0), .ref (q 28), .int 0])), ((q 4), .inr (3, [.ref (q 30), .ref (q 31), .ref (q 32), .int 0, .int 0, .int (-1), .int 0, .int 0, .int 0, .int 0, .int 0, .int 0])), ((q 5), .inr (9, [.ref (q 33), .ref (q 34), .ref (q 35), .int 0, .int 0])), ((q 8), .inr (7, [.ref (q 36), .ref (q 37), .ref (q 38), .ref (q 39), .int 0, .int 0])), ((q 9), .inr (6, [.int 0, .int 0, .int 0, .ref (q 40), .ref (q 41), .ref (q 42), .ref (q 43)])), ((q 11), .inr (0, [.ref (q 44), .int 0, .int 0])), ((r 1), .inl (kT, 240, .inl fT)), ((r 18), .inl (kU, 2, .inl (fun _ => 0))), ((r 24), .inl (kL, 5, .inl (fun _ => 0))), ((r 32), .inl (kN, 208, .inl (fun _ => 0)))] H := hP
  have hD : va_D (fun q : Nat => s.heap.size ≤ q) [((q 0), .inr (8, [.ref (q 16), .int 0, .int 0, .int 0])), ((q 16), .inl (kB, 240, .inl fB)), ((q 2), .inr (5, [.int 0, .int 0, .int 0, .int 0, .ref (q 24), .ref (q 25), .ref (q 26), .ref (q 27)])), ((q 24), .inl (kR, 2, .inl (fun _ => 0))), ((q 3), .inr (2, [.ref (q 0), .ref (q 28), .int 0])), ((q 4), .inr (3, [.ref (q 30), .ref (q 31), .ref (q 32), .int 0, .int 0, .int (-1), .int 0, .int 0, .int 0, .int 0, .int 0, .int 0])), ((q 5), .inr (9, [.ref (q 33), .ref (q 34), .ref (q 35), .int 0, .int 0])), ((q 8), .inr (7, [.ref (q 36), .ref (q 37), .ref (q 38), .ref (q 39), .int 0, .int 0])), ((q 9), .inr (6, [.int 0, .int 0, .int 0, .ref (q 40), .ref (q 41), .ref (q 42), .ref (q 43)])), ((q 11), .inr (0, [.ref (q 44), .int 0, .int 0])), ((r 1), .inl (kT, 240, .inl fT)), ((r 18), .inl (kU, 2, .inl (fun _ => 0))), ((r 24), .inl (kL, 5, .inl (fun _ => 0))), ((r 32), .inl (kN, 208, .inl (fun _ => 0)))] := hD
  refine W.widen (k := 335) (n := 33214) (Nat.le_of_ble_eq_true rfl) (Nat.le_of_ble_eq_true rfl) ?_
  obtain rfl : r_22 = (-1000000) := hw
  refine lv_icmp_eq (tgt := 1629) hx hb dL_law_1388 (by decide) (fun c_23 => ?_) (fun c_23 => absurd (by decide) c_23)
  exact lc_exit C0 hS (by decide) (by decide) ls (lv_sub hl [0, 4] rfl)
set_option maxHeartbeats 4000000 in
set_option maxRecDepth 100000 in
theorem lc_34 {p : Program} {l : Launch} {e : Env} {s : State} {m : MethodId} {below : List Frame} {meth : Method} {c : Code} {b : Nat} {xs : Nat → Int32} {H : Heap} {locs : List Loc} {ls : Array Slot} {dC : Nat → ClassId} {dI : Nat → Nat → Nat} {sk sv : Nat → Nat} {s2 tz s3 : Nat} (q r : Nat → Nat) (kB : ClassId) (kR : ClassId) (kT : ClassId) (kU : ClassId) (kL : ClassId) (kN : ClassId) (fB fT : Nat → Int32) (qo : Nat) (hlt : l.stackTraces = false) (C0 : lw_At p s m meth c b 6 xs) (hG : gxP s) (hE : exP sk sv s2 tz (fun q : Nat => s.heap.size ≤ q) s s.heap) (hT : tP s3 (fun q : Nat => s.heap.size ≤ q) s s.heap) (hK : va_K (dC, dI) vwCl [(kB, .int), (kR, .int), (kT, .byte), (kU, .int), (kL, .int), (kN, .int)] s) (hP : va_P (dC, dI) vwCl [((q 15), .inr (11, xF q 0 1)), ((q 0), .inr (8, [.ref (q 16), .int 0, .int 0, .int 0])), ((q 16), .inl (kB, 240, .inl fB)), ((q 1), .inr (5, [.int 0, .int 0, .int 0, .int 0, .ref (q 20), .ref (q 21), .ref (q 22), .ref (q 23)])), ((q 2), .inr (5, [.int 0, .int 0, .int 0, .int 0, .ref (q 24), .ref (q 25), .ref (q 26), .ref (q 27)])), ((q 24), .inl (kR, 2, .inl (fun _ => 0))), ((q 3), .inr (2, [.ref (q 0), .ref (q 28), .int 0])), ((q 4), .inr (3, [.ref (q 30), .ref (q 31), .ref (q 32), .int 0, .int 0, .int (-1), .int 0, .int 0, .int 0, .int 0, .int 0, .int 0])), ((q 5), .inr (9, [.ref (q 33), .ref (q 34), .ref (q 35), .int 0, .int 0])), ((q 8), .inr (7, [.ref (q 36), .ref (q 37), .ref (q 38), .ref (q 39), .int 0, .int 0])), ((q 9), .inr (6, [.int 0, .int 0, .int 0, .ref (q 40), .ref (q 41), .ref (q 42), .ref (q 43)])), ((q 11), .inr (0, [.ref (q 44), .int 0, .int 0])), ((r 100), .inr (12, mF r 0 0 0 0 0 0 0 0 0 0 0 0 0 (-1) 1)), ((r 1), .inl (kT, 240, .inl fT)), ((r 18), .inl (kU, 2, .inl (fun _ => 0))), ((r 24), .inl (kL, 5, .inl (fun _ => 0))), ((r 32), .inl (kN, 208, .inl (fun _ => 0)))] H) (hD : va_D (fun q : Nat => s.heap.size ≤ q) [((q 15), .inr (11, xF q 0 1)), ((q 0), .inr (8, [.ref (q 16), .int 0, .int 0, .int 0])), ((q 16), .inl (kB, 240, .inl fB)), ((q 1), .inr (5, [.int 0, .int 0, .int 0, .int 0, .ref (q 20), .ref (q 21), .ref (q 22), .ref (q 23)])), ((q 2), .inr (5, [.int 0, .int 0, .int 0, .int 0, .ref (q 24), .ref (q 25), .ref (q 26), .ref (q 27)])), ((q 24), .inl (kR, 2, .inl (fun _ => 0))), ((q 3), .inr (2, [.ref (q 0), .ref (q 28), .int 0])), ((q 4), .inr (3, [.ref (q 30), .ref (q 31), .ref (q 32), .int 0, .int 0, .int (-1), .int 0, .int 0, .int 0, .int 0, .int 0, .int 0])), ((q 5), .inr (9, [.ref (q 33), .ref (q 34), .ref (q 35), .int 0, .int 0])), ((q 8), .inr (7, [.ref (q 36), .ref (q 37), .ref (q 38), .ref (q 39), .int 0, .int 0])), ((q 9), .inr (6, [.int 0, .int 0, .int 0, .ref (q 40), .ref (q 41), .ref (q 42), .ref (q 43)])), ((q 11), .inr (0, [.ref (q 44), .int 0, .int 0])), ((r 100), .inr (12, mF r 0 0 0 0 0 0 0 0 0 0 0 0 0 (-1) 1)), ((r 1), .inl (kT, 240, .inl fT)), ((r 18), .inl (kU, 2, .inl (fun _ => 0))), ((r 24), .inl (kL, 5, .inl (fun _ => 0))), ((r 32), .inl (kN, 208, .inl (fun _ => 0)))]) (hS : va_S (fun q : Nat => s.heap.size ≤ q) s.heap H locs) (hl : lv_has ls 7 [(0, .ref b), (1, .ref (q 15)), (2, .ref (r 100)), (3, .ref qo), (4, .int 0)]) : W p l e room_1 s m #[Value.ref b] below meth c H locs 335 33214 (lw_Z below #[Value.ref b] s) (F0 m 1393 ls []) := by
  obtain ⟨hx, hb, hr, hml, hown0, hts, hX, hbl, hlocks, hgv⟩ := id C0
  have hown : s.vm.findClass RL = some m.cls := hown0
  have hA : ∀ q : Nat, s.heap.size ≤ q → (fun q : Nat => s.heap.size ≤ q) q := fun _ h => h
  have hbA : ¬ (fun q : Nat => s.heap.size ≤ q) b := Nat.not_le.mpr hbl
  have hiX11 : ∀ w ∈ u_ws RX11 TX11 17, w ∈ lw_tbl := in_X11
  have hiX12 : ∀ w ∈ u_ws RX12 TX12 54, w ∈ lw_tbl := in_X12
  refine lv_aload_n hx hb dL_law_1393 rfl (lv_at hl 1 rfl) ?_
  refine lv_aload_n hx hb dL_law_1394 rfl (lv_at hl 0 rfl) ?_
  refine lv_iload hx hb dL_law_1395 (lv_at hl 4 rfl) ?_
  refine lv_iconst (v := 1) hx hb dL_law_1397 (by decide) ?_
  refine lv_iadd hx hb dL_law_1398 ?_
  refine lv_topi (fun v_1 e_1 => ?_)
  obtain rfl : v_1 = 1 := by rw [e_1]; decide
  refine va_sld hx hb hX hbl hbA hS (i := 1) (vp_in_nI (n := 1) (by decide) (by decide)) dL_law_1399 ?_
  refine lv_topi (fun v_2 e_2 => ?_)
  obtain rfl : v_2 = xs 1 := by rw [e_2]; exact congrArg xs (by decide)
  refine lv_aload_n hx hb dL_law_1400 rfl (lv_at hl 0 rfl) ?_
  refine lv_iload hx hb dL_law_1401 (lv_at hl 4 rfl) ?_
  refine lv_iconst (v := 2) hx hb dL_law_1403 (by decide) ?_
  refine lv_iadd hx hb dL_law_1404 ?_
  refine lv_topi (fun v_3 e_3 => ?_)
  obtain rfl : v_3 = 2 := by rw [e_3]; decide
  refine va_sld hx hb hX hbl hbA hS (i := 2) (vp_in_nI (n := 2) (by decide) (by decide)) dL_law_1405 ?_
  refine lv_topi (fun v_4 e_4 => ?_)
  obtain rfl : v_4 = xs 2 := by rw [e_4]; exact congrArg xs (by decide)
  refine lv_aload_n hx hb dL_law_1406 rfl (lv_at hl 0 rfl) ?_
  refine lv_iload hx hb dL_law_1407 (lv_at hl 4 rfl) ?_
  refine lv_iconst (v := 3) hx hb dL_law_1409 (by decide) ?_
  refine lv_iadd hx hb dL_law_1410 ?_
  refine lv_topi (fun v_5 e_5 => ?_)
  obtain rfl : v_5 = 3 := by rw [e_5]; decide
  refine va_sld hx hb hX hbl hbA hS (i := 3) (vp_in_nI (n := 3) (by decide) (by decide)) dL_law_1411 ?_
  refine lv_topi (fun v_6 e_6 => ?_)
  obtain rfl : v_6 = xs 3 := by rw [e_6]; exact congrArg xs (by decide)
  have hPc := hP.sub (ws' := [((q 15), .inr (11, xF q 0 1)), ((q 1), .inr (5, [.int 0, .int 0, .int 0, .int 0, .ref (q 20), .ref (q 21), .ref (q 22), .ref (q 23)]))]) [0, 3] rfl
  have hDc := hD.sub (ws' := [((q 15), .inr (11, xF q 0 1)), ((q 1), .inr (5, [.int 0, .int 0, .int 0, .int 0, .ref (q 20), .ref (q 21), .ref (q 22), .ref (q 23)]))]) [0, 3] (by decide) rfl
  have hKc := hK.sub (tys' := []) [] rfl
  have hFc := va_free (wc := [((q 15), .inr (11, xF q 0 1)), ((q 1), .inr (5, [.int 0, .int 0, .int 0, .int 0, .ref (q 20), .ref (q 21), .ref (q 22), .ref (q 23)]))]) hD hS hA [0, 3] rfl
  refine va_calli (va_runV (As := [.int (xs 1), .int (xs 2), .int (xs 3)]) (rest := []) ⟨hx, hb, hml, hown, hts⟩ (f_X11_rests l dC dI H.size q ((xs 1)) ((xs 2)) ((xs 3))) (cwV 3 hts g_f_L_law_f_X11_rests rfl rfl rfl (by decide +kernel) ⟨Nat.le_of_ble_eq_true rfl, Nat.le_of_ble_eq_true rfl⟩) ⟨cW_blind, va_recv hKc hPc (ci := 11) (q0 := 0) rfl rfl, fun U hU hW => ⟨rfl, cW_use hU hW hPc hKc hDc hG⟩⟩ rfl rfl hl.1 rfl (lv_room (Nat.le_of_ble_eq_true rfl)) dL_law_1412 ⟨Nat.le_of_ble_eq_true rfl, Nat.le_of_ble_eq_true rfl⟩) hS (fun q _ h => hFc q h) hFc (fun r_7 u t H1 locs ht hvm hw hB hz1 hk1 hS => ?_)
  obtain ⟨hP, hD⟩ := va_join (wr := [((q 0), .inr (8, [.ref (q 16), .int 0, .int 0, .int 0])), ((q 16), .inl (kB, 240, .inl fB)), ((q 2), .inr (5, [.int 0, .int 0, .int 0, .int 0, .ref (q 24), .ref (q 25), .ref (q 26), .ref (q 27)])), ((q 24), .inl (kR, 2, .inl (fun _ => 0))), ((q 3), .inr (2, [.ref (q 0), .ref (q 28), .int 0])), ((q 4), .inr (3, [.ref (q 30), .ref (q 31), .ref (q 32), .int 0, .int 0, .int (-1), .int 0, .int 0, .int 0, .int 0, .int 0, .int 0])), ((q 5), .inr (9, [.ref (q 33), .ref (q 34), .ref (q 35), .int 0, .int 0])), ((q 8), .inr (7, [.ref (q 36), .ref (q 37), .ref (q 38), .ref (q 39), .int 0, .int 0])), ((q 9), .inr (6, [.int 0, .int 0, .int 0, .ref (q 40), .ref (q 41), .ref (q 42), .ref (q 43)])), ((q 11), .inr (0, [.ref (q 44), .int 0, .int 0])), ((r 100), .inr (12, mF r 0 0 0 0 0 0 0 0 0 0 0 0 0 (-1) 1)), ((r 1), .inl (kT, 240, .inl fT)), ((r 18), .inl (kU, 2, .inl (fun _ => 0))), ((r 24), .inl (kL, 5, .inl (fun _ => 0))), ((r 32), .inl (kN, 208, .inl (fun _ => 0)))]) (w1 := []) hP hD [0, 3] [1, 2, 4, 5, 6, 7, 8, 9, 10, 11, 12, 13, 14, 15, 16] rfl rfl (by decide) (by decide) hk1 hFc (va_P_nil H1) va_D_nil
  generalize H1 = H at hP hS ⊢
  have hP : va_P (dC, dI) vwCl [((q 0), .inr (8, [.ref (q 16), .int 0, .int 0, .int 0])), ((q 16), .inl (kB, 240, .inl fB)), ((q 2), .inr (5, [.int 0, .int 0, .int 0, .int 0, .ref (q 24), .ref (q 25), .ref (q 26), .ref (q 27)])), ((q 24), .inl (kR, 2, .inl (fun _ => 0))), ((q 3), .inr (2, [.ref (q 0), .ref (q 28), .int 0])), ((q 4), .inr (3, [.ref (q 30), .ref (q 31), .ref (q 32), .int 0, .int 0, .int (-1), .int 0, .int 0, .int 0, .int 0, .int 0, .int 0])), ((q 5), .inr (9, [.ref (q 33), .ref (q 34), .ref (q 35), .int 0, .int 0])), ((q 8), .inr (7, [.ref (q 36), .ref (q 37), .ref (q 38), .ref (q 39), .int 0, .int 0])), ((q 9), .inr (6, [.int 0, .int 0, .int 0, .ref (q 40), .ref (q 41), .ref (q 42), .ref (q 43)])), ((q 11), .inr (0, [.ref (q 44), .int 0, .int 0])), ((r 100), .inr (12, mF r 0 0 0 0 0 0 0 0 0 0 0 0 0 (-1) 1)), ((r 1), .inl (kT, 240, .inl fT)), ((r 18), .inl (kU, 2, .inl (fun _ => 0))), ((r 24), .inl (kL, 5, .inl (fun _ => 0))), ((r 32), .inl (kN, 208, .inl (fun _ => 0)))] H := hP
  have hD : va_D (fun q : Nat => s.heap.size ≤ q) [((q 0), .inr (8, [.ref (q 16), .int 0, .int 0, .int 0])), ((q 16), .inl (kB, 240, .inl fB)), ((q 2), .inr (5, [.int 0, .int 0, .int 0, .int 0, .ref (q 24), .ref (q 25), .ref (q 26), .ref (q 27)])), ((q 24), .inl (kR, 2, .inl (fun _ => 0))), ((q 3), .inr (2, [.ref (q 0), .ref (q 28), .int 0])), ((q 4), .inr (3, [.ref (q 30), .ref (q 31), .ref (q 32), .int 0, .int 0, .int (-1), .int 0, .int 0, .int 0, .int 0, .int 0, .int 0])), ((q 5), .inr (9, [.ref (q 33), .ref (q 34), .ref (q 35), .int 0, .int 0])), ((q 8), .inr (7, [.ref (q 36), .ref (q 37), .ref (q 38), .ref (q 39), .int 0, .int 0])), ((q 9), .inr (6, [.int 0, .int 0, .int 0, .ref (q 40), .ref (q 41), .ref (q 42), .ref (q 43)])), ((q 11), .inr (0, [.ref (q 44), .int 0, .int 0])), ((r 100), .inr (12, mF r 0 0 0 0 0 0 0 0 0 0 0 0 0 (-1) 1)), ((r 1), .inl (kT, 240, .inl fT)), ((r 18), .inl (kU, 2, .inl (fun _ => 0))), ((r 24), .inl (kL, 5, .inl (fun _ => 0))), ((r 32), .inl (kN, 208, .inl (fun _ => 0)))] := hD
  refine W.widen (k := 335) (n := 33214) (Nat.le_of_ble_eq_true rfl) (Nat.le_of_ble_eq_true rfl) ?_
  obtain rfl : r_7 = (-1) := hw
  refine lv_aload_n hx hb dL_law_1415 rfl (lv_at hl 2 rfl) ?_
  refine lv_aload_n hx hb dL_law_1416 rfl (lv_at hl 0 rfl) ?_
  refine lv_iload hx hb dL_law_1417 (lv_at hl 4 rfl) ?_
  refine lv_iconst (v := 1) hx hb dL_law_1419 (by decide) ?_
  refine lv_iadd hx hb dL_law_1420 ?_
  refine lv_topi (fun v_8 e_8 => ?_)
  obtain rfl : v_8 = 1 := by rw [e_8]; decide
  refine va_sld hx hb hX hbl hbA hS (i := 1) (vp_in_nI (n := 1) (by decide) (by decide)) dL_law_1421 ?_
  refine lv_topi (fun v_9 e_9 => ?_)
  obtain rfl : v_9 = xs 1 := by rw [e_9]; exact congrArg xs (by decide)
  refine lv_aload_n hx hb dL_law_1422 rfl (lv_at hl 0 rfl) ?_
  refine lv_iload hx hb dL_law_1423 (lv_at hl 4 rfl) ?_
  refine lv_iconst (v := 2) hx hb dL_law_1425 (by decide) ?_
  refine lv_iadd hx hb dL_law_1426 ?_
  refine lv_topi (fun v_10 e_10 => ?_)
  obtain rfl : v_10 = 2 := by rw [e_10]; decide
  refine va_sld hx hb hX hbl hbA hS (i := 2) (vp_in_nI (n := 2) (by decide) (by decide)) dL_law_1427 ?_
  refine lv_topi (fun v_11 e_11 => ?_)
  obtain rfl : v_11 = xs 2 := by rw [e_11]; exact congrArg xs (by decide)
  refine lv_aload_n hx hb dL_law_1428 rfl (lv_at hl 0 rfl) ?_
  refine lv_iload hx hb dL_law_1429 (lv_at hl 4 rfl) ?_
  refine lv_iconst (v := 3) hx hb dL_law_1431 (by decide) ?_
  refine lv_iadd hx hb dL_law_1432 ?_
  refine lv_topi (fun v_12 e_12 => ?_)
  obtain rfl : v_12 = 3 := by rw [e_12]; decide
  refine va_sld hx hb hX hbl hbA hS (i := 3) (vp_in_nI (n := 3) (by decide) (by decide)) dL_law_1433 ?_
  refine lv_topi (fun v_13 e_13 => ?_)
  obtain rfl : v_13 = xs 3 := by rw [e_13]; exact congrArg xs (by decide)
  have hPc := hP.sub (ws' := [((r 100), .inr (12, mF r 0 0 0 0 0 0 0 0 0 0 0 0 0 (-1) 1))]) [10] rfl
  have hDc := hD.sub (ws' := [((r 100), .inr (12, mF r 0 0 0 0 0 0 0 0 0 0 0 0 0 (-1) 1))]) [10] (by decide) rfl
  have hKc := hK.sub (tys' := []) [] rfl
  have hFc := va_free (wc := [((r 100), .inr (12, mF r 0 0 0 0 0 0 0 0 0 0 0 0 0 (-1) 1))]) hD hS hA [10] rfl
  refine va_calli (va_runV (As := [.int (xs 1), .int (xs 2), .int (xs 3)]) (rest := [.int (-1)]) ⟨hx, hb, hml, hown, hts⟩ (f_X12_rests l dC dI H.size r ((xs 1)) ((xs 2)) ((xs 3))) (cwV 3 hts g_f_L_law_f_X12_rests rfl rfl rfl (by decide +kernel) ⟨Nat.le_of_ble_eq_true rfl, Nat.le_of_ble_eq_true rfl⟩) ⟨cW_blind, va_recv hKc hPc (ci := 12) (q0 := 0) rfl rfl, fun U hU hW => ⟨rfl, cW_use hU hW hPc hKc hDc hG⟩⟩ rfl rfl hl.1 rfl (lv_room (Nat.le_of_ble_eq_true rfl)) dL_law_1434 ⟨Nat.le_of_ble_eq_true rfl, Nat.le_of_ble_eq_true rfl⟩) hS (fun q _ h => hFc q h) hFc (fun r_14 u t H1 locs ht hvm hw hB hz1 hk1 hS => ?_)
  obtain ⟨hP, hD⟩ := va_join (wr := [((q 0), .inr (8, [.ref (q 16), .int 0, .int 0, .int 0])), ((q 16), .inl (kB, 240, .inl fB)), ((q 2), .inr (5, [.int 0, .int 0, .int 0, .int 0, .ref (q 24), .ref (q 25), .ref (q 26), .ref (q 27)])), ((q 24), .inl (kR, 2, .inl (fun _ => 0))), ((q 3), .inr (2, [.ref (q 0), .ref (q 28), .int 0])), ((q 4), .inr (3, [.ref (q 30), .ref (q 31), .ref (q 32), .int 0, .int 0, .int (-1), .int 0, .int 0, .int 0, .int 0, .int 0, .int 0])), ((q 5), .inr (9, [.ref (q 33), .ref (q 34), .ref (q 35), .int 0, .int 0])), ((q 8), .inr (7, [.ref (q 36), .ref (q 37), .ref (q 38), .ref (q 39), .int 0, .int 0])), ((q 9), .inr (6, [.int 0, .int 0, .int 0, .ref (q 40), .ref (q 41), .ref (q 42), .ref (q 43)])), ((q 11), .inr (0, [.ref (q 44), .int 0, .int 0])), ((r 1), .inl (kT, 240, .inl fT)), ((r 18), .inl (kU, 2, .inl (fun _ => 0))), ((r 24), .inl (kL, 5, .inl (fun _ => 0))), ((r 32), .inl (kN, 208, .inl (fun _ => 0)))]) (w1 := []) hP hD [10] [0, 1, 2, 3, 4, 5, 6, 7, 8, 9, 11, 12, 13, 14] rfl rfl (by decide) (by decide) hk1 hFc (va_P_nil H1) va_D_nil
  generalize H1 = H at hP hS ⊢
  have hP : va_P (dC, dI) vwCl [((q 0), .inr (8, [.ref (q 16), .int 0, .int 0, .int 0])), ((q 16), .inl (kB, 240, .inl fB)), ((q 2), .inr (5, [.int 0, .int 0, .int 0, .int 0, .ref (q 24), .ref (q 25), .ref (q 26), .ref (q 27)])), ((q 24), .inl (kR, 2, .inl (fun _ => 0))), ((q 3), .inr (2, [.ref (q 0), .ref (q 28), .int 0])), ((q 4), .inr (3, [.ref (q 30), .ref (q 31), .ref (q 32), .int 0, .int 0, .int (-1), .int 0, .int 0, .int 0, .int 0, .int 0, .int 0])), ((q 5), .inr (9, [.ref (q 33), .ref (q 34), .ref (q 35), .int 0, .int 0])), ((q 8), .inr (7, [.ref (q 36), .ref (q 37), .ref (q 38), .ref (q 39), .int 0, .int 0])), ((q 9), .inr (6, [.int 0, .int 0, .int 0, .ref (q 40), .ref (q 41), .ref (q 42), .ref (q 43)])), ((q 11), .inr (0, [.ref (q 44), .int 0, .int 0])), ((r 1), .inl (kT, 240, .inl fT)), ((r 18), .inl (kU, 2, .inl (fun _ => 0))), ((r 24), .inl (kL, 5, .inl (fun _ => 0))), ((r 32), .inl (kN, 208, .inl (fun _ => 0)))] H := hP
  have hD : va_D (fun q : Nat => s.heap.size ≤ q) [((q 0), .inr (8, [.ref (q 16), .int 0, .int 0, .int 0])), ((q 16), .inl (kB, 240, .inl fB)), ((q 2), .inr (5, [.int 0, .int 0, .int 0, .int 0, .ref (q 24), .ref (q 25), .ref (q 26), .ref (q 27)])), ((q 24), .inl (kR, 2, .inl (fun _ => 0))), ((q 3), .inr (2, [.ref (q 0), .ref (q 28), .int 0])), ((q 4), .inr (3, [.ref (q 30), .ref (q 31), .ref (q 32), .int 0, .int 0, .int (-1), .int 0, .int 0, .int 0, .int 0, .int 0, .int 0])), ((q 5), .inr (9, [.ref (q 33), .ref (q 34), .ref (q 35), .int 0, .int 0])), ((q 8), .inr (7, [.ref (q 36), .ref (q 37), .ref (q 38), .ref (q 39), .int 0, .int 0])), ((q 9), .inr (6, [.int 0, .int 0, .int 0, .ref (q 40), .ref (q 41), .ref (q 42), .ref (q 43)])), ((q 11), .inr (0, [.ref (q 44), .int 0, .int 0])), ((r 1), .inl (kT, 240, .inl fT)), ((r 18), .inl (kU, 2, .inl (fun _ => 0))), ((r 24), .inl (kL, 5, .inl (fun _ => 0))), ((r 32), .inl (kN, 208, .inl (fun _ => 0)))] := hD
  refine W.widen (k := 335) (n := 33214) (Nat.le_of_ble_eq_true rfl) (Nat.le_of_ble_eq_true rfl) ?_
  obtain rfl : r_14 = (-1) := hw
  refine lv_icmp_eq (tgt := 1629) hx hb dL_law_1437 (by decide) (fun c_15 => ?_) (fun c_15 => absurd (by decide) c_15)
  exact lc_exit C0 hS (by decide) (by decide) ls (lv_sub hl [0, 4] rfl)
set_option maxHeartbeats 4000000 in
set_option maxRecDepth 100000 in
theorem lc_35 {p : Program} {l : Launch} {e : Env} {s : State} {m : MethodId} {below : List Frame} {meth : Method} {c : Code} {b : Nat} {xs : Nat → Int32} {H : Heap} {locs : List Loc} {ls : Array Slot} {dC : Nat → ClassId} {dI : Nat → Nat → Nat} {sk sv : Nat → Nat} {s2 tz s3 : Nat} (q r : Nat → Nat) (kB : ClassId) (kR : ClassId) (kT : ClassId) (kU : ClassId) (kL : ClassId) (kN : ClassId) (fB fT : Nat → Int32) (qo : Nat) (hlt : l.stackTraces = false) (C0 : lw_At p s m meth c b 6 xs) (hG : gxP s) (hE : exP sk sv s2 tz (fun q : Nat => s.heap.size ≤ q) s s.heap) (hT : tP s3 (fun q : Nat => s.heap.size ≤ q) s s.heap) (hK : va_K (dC, dI) vwCl [(kB, .int), (kR, .int), (kT, .byte), (kU, .int), (kL, .int), (kN, .int)] s) (hP : va_P (dC, dI) vwCl [((q 15), .inr (11, xF q 0 1)), ((q 0), .inr (8, [.ref (q 16), .int 0, .int 0, .int 0])), ((q 16), .inl (kB, 240, .inl fB)), ((q 1), .inr (5, [.int 0, .int 0, .int 0, .int 0, .ref (q 20), .ref (q 21), .ref (q 22), .ref (q 23)])), ((q 2), .inr (5, [.int 0, .int 0, .int 0, .int 0, .ref (q 24), .ref (q 25), .ref (q 26), .ref (q 27)])), ((q 24), .inl (kR, 2, .inl (fun _ => 0))), ((q 3), .inr (2, [.ref (q 0), .ref (q 28), .int 0])), ((q 4), .inr (3, [.ref (q 30), .ref (q 31), .ref (q 32), .int 0, .int 0, .int (-1), .int 0, .int 0, .int 0, .int 0, .int 0, .int 0])), ((q 5), .inr (9, [.ref (q 33), .ref (q 34), .ref (q 35), .int 0, .int 0])), ((q 8), .inr (7, [.ref (q 36), .ref (q 37), .ref (q 38), .ref (q 39), .int 0, .int 0])), ((q 9), .inr (6, [.int 0, .int 0, .int 0, .ref (q 40), .ref (q 41), .ref (q 42), .ref (q 43)])), ((q 11), .inr (0, [.ref (q 44), .int 0, .int 0])), ((r 100), .inr (12, mF r 0 0 0 0 0 0 0 0 0 0 0 0 0 (-1) 1)), ((r 1), .inl (kT, 240, .inl fT)), ((r 18), .inl (kU, 2, .inl (fun _ => 0))), ((r 24), .inl (kL, 5, .inl (fun _ => 0))), ((r 32), .inl (kN, 208, .inl (fun _ => 0)))] H) (hD : va_D (fun q : Nat => s.heap.size ≤ q) [((q 15), .inr (11, xF q 0 1)), ((q 0), .inr (8, [.ref (q 16), .int 0, .int 0, .int 0])), ((q 16), .inl (kB, 240, .inl fB)), ((q 1), .inr (5, [.int 0, .int 0, .int 0, .int 0, .ref (q 20), .ref (q 21), .ref (q 22), .ref (q 23)])), ((q 2), .inr (5, [.int 0, .int 0, .int 0, .int 0, .ref (q 24), .ref (q 25), .ref (q 26), .ref (q 27)])), ((q 24), .inl (kR, 2, .inl (fun _ => 0))), ((q 3), .inr (2, [.ref (q 0), .ref (q 28), .int 0])), ((q 4), .inr (3, [.ref (q 30), .ref (q 31), .ref (q 32), .int 0, .int 0, .int (-1), .int 0, .int 0, .int 0, .int 0, .int 0, .int 0])), ((q 5), .inr (9, [.ref (q 33), .ref (q 34), .ref (q 35), .int 0, .int 0])), ((q 8), .inr (7, [.ref (q 36), .ref (q 37), .ref (q 38), .ref (q 39), .int 0, .int 0])), ((q 9), .inr (6, [.int 0, .int 0, .int 0, .ref (q 40), .ref (q 41), .ref (q 42), .ref (q 43)])), ((q 11), .inr (0, [.ref (q 44), .int 0, .int 0])), ((r 100), .inr (12, mF r 0 0 0 0 0 0 0 0 0 0 0 0 0 (-1) 1)), ((r 1), .inl (kT, 240, .inl fT)), ((r 18), .inl (kU, 2, .inl (fun _ => 0))), ((r 24), .inl (kL, 5, .inl (fun _ => 0))), ((r 32), .inl (kN, 208, .inl (fun _ => 0)))]) (hS : va_S (fun q : Nat => s.heap.size ≤ q) s.heap H locs) (hl : lv_has ls 7 [(0, .ref b), (1, .ref (q 15)), (2, .ref (r 100)), (3, .ref qo), (4, .int 0)]) : W p l e room_1 s m #[Value.ref b] below meth c H locs 335 33214 (lw_Z below #[Value.ref b] s) (F0 m 1442 ls []) := by
  obtain ⟨hx, hb, hr, hml, hown0, hts, hX, hbl, hlocks, hgv⟩ := id C0
  have hown : s.vm.findClass RL = some m.cls := hown0
  have hA : ∀ q : Nat, s.heap.size ≤ q → (fun q : Nat => s.heap.size ≤ q) q := fun _ h => h
  have hbA : ¬ (fun q : Nat => s.heap.size ≤ q) b := Nat.not_le.mpr hbl
  have hiX11 : ∀ w ∈ u_ws RX11 TX11 17, w ∈ lw_tbl := in_X11
  have hiX12 : ∀ w ∈ u_ws RX12 TX12 54, w ∈ lw_tbl := in_X12
  refine lv_aload_n hx hb dL_law_1442 rfl (lv_at hl 1 rfl) ?_
  refine lv_aload_n hx hb dL_law_1443 rfl (lv_at hl 0 rfl) ?_
  refine lv_iload hx hb dL_law_1444 (lv_at hl 4 rfl) ?_
  refine lv_iconst (v := 1) hx hb dL_law_1446 (by decide) ?_
  refine lv_iadd hx hb dL_law_1447 ?_
  refine lv_topi (fun v_1 e_1 => ?_)
  obtain rfl : v_1 = 1 := by rw [e_1]; decide
  refine va_sld hx hb hX hbl hbA hS (i := 1) (vp_in_nI (n := 1) (by decide) (by decide)) dL_law_1448 ?_
  refine lv_topi (fun v_2 e_2 => ?_)
  obtain rfl : v_2 = xs 1 := by rw [e_2]; exact congrArg xs (by decide)
  refine lv_aload_n hx hb dL_law_1449 rfl (lv_at hl 0 rfl) ?_
  refine lv_iload hx hb dL_law_1450 (lv_at hl 4 rfl) ?_
  refine lv_iconst (v := 2) hx hb dL_law_1452 (by decide) ?_
  refine lv_iadd hx hb dL_law_1453 ?_
  refine lv_topi (fun v_3 e_3 => ?_)
  obtain rfl : v_3 = 2 := by rw [e_3]; decide
  refine va_sld hx hb hX hbl hbA hS (i := 2) (vp_in_nI (n := 2) (by decide) (by decide)) dL_law_1454 ?_
  refine lv_topi (fun v_4 e_4 => ?_)
  obtain rfl : v_4 = xs 2 := by rw [e_4]; exact congrArg xs (by decide)
  have hPc := hP.sub (ws' := [((q 15), .inr (11, xF q 0 1)), ((q 1), .inr (5, [.int 0, .int 0, .int 0, .int 0, .ref (q 20), .ref (q 21), .ref (q 22), .ref (q 23)]))]) [0, 3] rfl
  have hDc := hD.sub (ws' := [((q 15), .inr (11, xF q 0 1)), ((q 1), .inr (5, [.int 0, .int 0, .int 0, .int 0, .ref (q 20), .ref (q 21), .ref (q 22), .ref (q 23)]))]) [0, 3] (by decide) rfl
  have hKc := hK.sub (tys' := []) [] rfl
  have hFc := va_free (wc := [((q 15), .inr (11, xF q 0 1)), ((q 1), .inr (5, [.int 0, .int 0, .int 0, .int 0, .ref (q 20), .ref (q 21), .ref (q 22), .ref (q 23)]))]) hD hS hA [0, 3] rfl
  refine va_calli (va_runV (As := [.int (xs 1), .int (xs 2)]) (rest := []) ⟨hx, hb, hml, hown, hts⟩ (f_X11_odds l dC dI H.size q ((xs 1)) ((xs 2))) (cwV 2 hts g_f_L_law_f_X11_odds rfl rfl rfl (by decide +kernel) ⟨Nat.le_of_ble_eq_true rfl, Nat.le_of_ble_eq_true rfl⟩) ⟨cW_blind, va_recv hKc hPc (ci := 11) (q0 := 0) rfl rfl, fun U hU hW => ⟨rfl, cW_use hU hW hPc hKc hDc hG⟩⟩ rfl rfl hl.1 rfl (lv_room (Nat.le_of_ble_eq_true rfl)) dL_law_1455 ⟨Nat.le_of_ble_eq_true rfl, Nat.le_of_ble_eq_true rfl⟩) hS (fun q _ h => hFc q h) hFc (fun r_5 u t H1 locs ht hvm hw hB hz1 hk1 hS => ?_)
  obtain ⟨hP, hD⟩ := va_join (wr := [((q 0), .inr (8, [.ref (q 16), .int 0, .int 0, .int 0])), ((q 16), .inl (kB, 240, .inl fB)), ((q 2), .inr (5, [.int 0, .int 0, .int 0, .int 0, .ref (q 24), .ref (q 25), .ref (q 26), .ref (q 27)])), ((q 24), .inl (kR, 2, .inl (fun _ => 0))), ((q 3), .inr (2, [.ref (q 0), .ref (q 28), .int 0])), ((q 4), .inr (3, [.ref (q 30), .ref (q 31), .ref (q 32), .int 0, .int 0, .int (-1), .int 0, .int 0, .int 0, .int 0, .int 0, .int 0])), ((q 5), .inr (9, [.ref (q 33), .ref (q 34), .ref (q 35), .int 0, .int 0])), ((q 8), .inr (7, [.ref (q 36), .ref (q 37), .ref (q 38), .ref (q 39), .int 0, .int 0])), ((q 9), .inr (6, [.int 0, .int 0, .int 0, .ref (q 40), .ref (q 41), .ref (q 42), .ref (q 43)])), ((q 11), .inr (0, [.ref (q 44), .int 0, .int 0])), ((r 100), .inr (12, mF r 0 0 0 0 0 0 0 0 0 0 0 0 0 (-1) 1)), ((r 1), .inl (kT, 240, .inl fT)), ((r 18), .inl (kU, 2, .inl (fun _ => 0))), ((r 24), .inl (kL, 5, .inl (fun _ => 0))), ((r 32), .inl (kN, 208, .inl (fun _ => 0)))]) (w1 := []) hP hD [0, 3] [1, 2, 4, 5, 6, 7, 8, 9, 10, 11, 12, 13, 14, 15, 16] rfl rfl (by decide) (by decide) hk1 hFc (va_P_nil H1) va_D_nil
  generalize H1 = H at hP hS ⊢
  have hP : va_P (dC, dI) vwCl [((q 0), .inr (8, [.ref (q 16), .int 0, .int 0, .int 0])), ((q 16), .inl (kB, 240, .inl fB)), ((q 2), .inr (5, [.int 0, .int 0, .int 0, .int 0, .ref (q 24), .ref (q 25), .ref (q 26), .ref (q 27)])), ((q 24), .inl (kR, 2, .inl (fun _ => 0))), ((q 3), .inr (2, [.ref (q 0), .ref (q 28), .int 0])), ((q 4), .inr (3, [.ref (q 30), .ref (q 31), .ref (q 32), .int 0, .int 0, .int (-1), .int 0, .int 0, .int 0, .int 0, .int 0, .int 0])), ((q 5), .inr (9, [.ref (q 33), .ref (q 34), .ref (q 35), .int 0, .int 0])), ((q 8), .inr (7, [.ref (q 36), .ref (q 37), .ref (q 38), .ref (q 39), .int 0, .int 0])), ((q 9), .inr (6, [.int 0, .int 0, .int 0, .ref (q 40), .ref (q 41), .ref (q 42), .ref (q 43)])), ((q 11), .inr (0, [.ref (q 44), .int 0, .int 0])), ((r 100), .inr (12, mF r 0 0 0 0 0 0 0 0 0 0 0 0 0 (-1) 1)), ((r 1), .inl (kT, 240, .inl fT)), ((r 18), .inl (kU, 2, .inl (fun _ => 0))), ((r 24), .inl (kL, 5, .inl (fun _ => 0))), ((r 32), .inl (kN, 208, .inl (fun _ => 0)))] H := hP
  have hD : va_D (fun q : Nat => s.heap.size ≤ q) [((q 0), .inr (8, [.ref (q 16), .int 0, .int 0, .int 0])), ((q 16), .inl (kB, 240, .inl fB)), ((q 2), .inr (5, [.int 0, .int 0, .int 0, .int 0, .ref (q 24), .ref (q 25), .ref (q 26), .ref (q 27)])), ((q 24), .inl (kR, 2, .inl (fun _ => 0))), ((q 3), .inr (2, [.ref (q 0), .ref (q 28), .int 0])), ((q 4), .inr (3, [.ref (q 30), .ref (q 31), .ref (q 32), .int 0, .int 0, .int (-1), .int 0, .int 0, .int 0, .int 0, .int 0, .int 0])), ((q 5), .inr (9, [.ref (q 33), .ref (q 34), .ref (q 35), .int 0, .int 0])), ((q 8), .inr (7, [.ref (q 36), .ref (q 37), .ref (q 38), .ref (q 39), .int 0, .int 0])), ((q 9), .inr (6, [.int 0, .int 0, .int 0, .ref (q 40), .ref (q 41), .ref (q 42), .ref (q 43)])), ((q 11), .inr (0, [.ref (q 44), .int 0, .int 0])), ((r 100), .inr (12, mF r 0 0 0 0 0 0 0 0 0 0 0 0 0 (-1) 1)), ((r 1), .inl (kT, 240, .inl fT)), ((r 18), .inl (kU, 2, .inl (fun _ => 0))), ((r 24), .inl (kL, 5, .inl (fun _ => 0))), ((r 32), .inl (kN, 208, .inl (fun _ => 0)))] := hD
  refine W.widen (k := 335) (n := 33214) (Nat.le_of_ble_eq_true rfl) (Nat.le_of_ble_eq_true rfl) ?_
  obtain rfl : r_5 = (-1) := hw
  refine lv_aload_n hx hb dL_law_1458 rfl (lv_at hl 2 rfl) ?_
  refine lv_aload_n hx hb dL_law_1459 rfl (lv_at hl 0 rfl) ?_
  refine lv_iload hx hb dL_law_1460 (lv_at hl 4 rfl) ?_
  refine lv_iconst (v := 1) hx hb dL_law_1462 (by decide) ?_
  refine lv_iadd hx hb dL_law_1463 ?_
  refine lv_topi (fun v_6 e_6 => ?_)
  obtain rfl : v_6 = 1 := by rw [e_6]; decide
  refine va_sld hx hb hX hbl hbA hS (i := 1) (vp_in_nI (n := 1) (by decide) (by decide)) dL_law_1464 ?_
  refine lv_topi (fun v_7 e_7 => ?_)
  obtain rfl : v_7 = xs 1 := by rw [e_7]; exact congrArg xs (by decide)
  refine lv_aload_n hx hb dL_law_1465 rfl (lv_at hl 0 rfl) ?_
  refine lv_iload hx hb dL_law_1466 (lv_at hl 4 rfl) ?_
  refine lv_iconst (v := 2) hx hb dL_law_1468 (by decide) ?_
  refine lv_iadd hx hb dL_law_1469 ?_
  refine lv_topi (fun v_8 e_8 => ?_)
  obtain rfl : v_8 = 2 := by rw [e_8]; decide
  refine va_sld hx hb hX hbl hbA hS (i := 2) (vp_in_nI (n := 2) (by decide) (by decide)) dL_law_1470 ?_
  refine lv_topi (fun v_9 e_9 => ?_)
  obtain rfl : v_9 = xs 2 := by rw [e_9]; exact congrArg xs (by decide)
  have hPc := hP.sub (ws' := [((r 100), .inr (12, mF r 0 0 0 0 0 0 0 0 0 0 0 0 0 (-1) 1))]) [10] rfl
  have hDc := hD.sub (ws' := [((r 100), .inr (12, mF r 0 0 0 0 0 0 0 0 0 0 0 0 0 (-1) 1))]) [10] (by decide) rfl
  have hKc := hK.sub (tys' := []) [] rfl
  have hFc := va_free (wc := [((r 100), .inr (12, mF r 0 0 0 0 0 0 0 0 0 0 0 0 0 (-1) 1))]) hD hS hA [10] rfl
  refine va_calli (va_runV (As := [.int (xs 1), .int (xs 2)]) (rest := [.int (-1)]) ⟨hx, hb, hml, hown, hts⟩ (f_X12_odds l dC dI H.size r ((xs 1)) ((xs 2))) (cwV 2 hts g_f_L_law_f_X12_odds rfl rfl rfl (by decide +kernel) ⟨Nat.le_of_ble_eq_true rfl, Nat.le_of_ble_eq_true rfl⟩) ⟨cW_blind, va_recv hKc hPc (ci := 12) (q0 := 0) rfl rfl, fun U hU hW => ⟨rfl, cW_use hU hW hPc hKc hDc hG⟩⟩ rfl rfl hl.1 rfl (lv_room (Nat.le_of_ble_eq_true rfl)) dL_law_1471 ⟨Nat.le_of_ble_eq_true rfl, Nat.le_of_ble_eq_true rfl⟩) hS (fun q _ h => hFc q h) hFc (fun r_10 u t H1 locs ht hvm hw hB hz1 hk1 hS => ?_)
  obtain ⟨hP, hD⟩ := va_join (wr := [((q 0), .inr (8, [.ref (q 16), .int 0, .int 0, .int 0])), ((q 16), .inl (kB, 240, .inl fB)), ((q 2), .inr (5, [.int 0, .int 0, .int 0, .int 0, .ref (q 24), .ref (q 25), .ref (q 26), .ref (q 27)])), ((q 24), .inl (kR, 2, .inl (fun _ => 0))), ((q 3), .inr (2, [.ref (q 0), .ref (q 28), .int 0])), ((q 4), .inr (3, [.ref (q 30), .ref (q 31), .ref (q 32), .int 0, .int 0, .int (-1), .int 0, .int 0, .int 0, .int 0, .int 0, .int 0])), ((q 5), .inr (9, [.ref (q 33), .ref (q 34), .ref (q 35), .int 0, .int 0])), ((q 8), .inr (7, [.ref (q 36), .ref (q 37), .ref (q 38), .ref (q 39), .int 0, .int 0])), ((q 9), .inr (6, [.int 0, .int 0, .int 0, .ref (q 40), .ref (q 41), .ref (q 42), .ref (q 43)])), ((q 11), .inr (0, [.ref (q 44), .int 0, .int 0])), ((r 1), .inl (kT, 240, .inl fT)), ((r 18), .inl (kU, 2, .inl (fun _ => 0))), ((r 24), .inl (kL, 5, .inl (fun _ => 0))), ((r 32), .inl (kN, 208, .inl (fun _ => 0)))]) (w1 := []) hP hD [10] [0, 1, 2, 3, 4, 5, 6, 7, 8, 9, 11, 12, 13, 14] rfl rfl (by decide) (by decide) hk1 hFc (va_P_nil H1) va_D_nil
  generalize H1 = H at hP hS ⊢
  have hP : va_P (dC, dI) vwCl [((q 0), .inr (8, [.ref (q 16), .int 0, .int 0, .int 0])), ((q 16), .inl (kB, 240, .inl fB)), ((q 2), .inr (5, [.int 0, .int 0, .int 0, .int 0, .ref (q 24), .ref (q 25), .ref (q 26), .ref (q 27)])), ((q 24), .inl (kR, 2, .inl (fun _ => 0))), ((q 3), .inr (2, [.ref (q 0), .ref (q 28), .int 0])), ((q 4), .inr (3, [.ref (q 30), .ref (q 31), .ref (q 32), .int 0, .int 0, .int (-1), .int 0, .int 0, .int 0, .int 0, .int 0, .int 0])), ((q 5), .inr (9, [.ref (q 33), .ref (q 34), .ref (q 35), .int 0, .int 0])), ((q 8), .inr (7, [.ref (q 36), .ref (q 37), .ref (q 38), .ref (q 39), .int 0, .int 0])), ((q 9), .inr (6, [.int 0, .int 0, .int 0, .ref (q 40), .ref (q 41), .ref (q 42), .ref (q 43)])), ((q 11), .inr (0, [.ref (q 44), .int 0, .int 0])), ((r 1), .inl (kT, 240, .inl fT)), ((r 18), .inl (kU, 2, .inl (fun _ => 0))), ((r 24), .inl (kL, 5, .inl (fun _ => 0))), ((r 32), .inl (kN, 208, .inl (fun _ => 0)))] H := hP
  have hD : va_D (fun q : Nat => s.heap.size ≤ q) [((q 0), .inr (8, [.ref (q 16), .int 0, .int 0, .int 0])), ((q 16), .inl (kB, 240, .inl fB)), ((q 2), .inr (5, [.int 0, .int 0, .int 0, .int 0, .ref (q 24), .ref (q 25), .ref (q 26), .ref (q 27)])), ((q 24), .inl (kR, 2, .inl (fun _ => 0))), ((q 3), .inr (2, [.ref (q 0), .ref (q 28), .int 0])), ((q 4), .inr (3, [.ref (q 30), .ref (q 31), .ref (q 32), .int 0, .int 0, .int (-1), .int 0, .int 0, .int 0, .int 0, .int 0, .int 0])), ((q 5), .inr (9, [.ref (q 33), .ref (q 34), .ref (q 35), .int 0, .int 0])), ((q 8), .inr (7, [.ref (q 36), .ref (q 37), .ref (q 38), .ref (q 39), .int 0, .int 0])), ((q 9), .inr (6, [.int 0, .int 0, .int 0, .ref (q 40), .ref (q 41), .ref (q 42), .ref (q 43)])), ((q 11), .inr (0, [.ref (q 44), .int 0, .int 0])), ((r 1), .inl (kT, 240, .inl fT)), ((r 18), .inl (kU, 2, .inl (fun _ => 0))), ((r 24), .inl (kL, 5, .inl (fun _ => 0))), ((r 32), .inl (kN, 208, .inl (fun _ => 0)))] := hD
  refine W.widen (k := 335) (n := 33214) (Nat.le_of_ble_eq_true rfl) (Nat.le_of_ble_eq_true rfl) ?_
  obtain rfl : r_10 = (-1) := hw
  refine lv_icmp_eq (tgt := 1629) hx hb dL_law_1474 (by decide) (fun c_11 => ?_) (fun c_11 => absurd (by decide) c_11)
  exact lc_exit C0 hS (by decide) (by decide) ls (lv_sub hl [0, 4] rfl)
set_option maxHeartbeats 4000000 in
set_option maxRecDepth 100000 in
theorem lc_36 {p : Program} {l : Launch} {e : Env} {s : State} {m : MethodId} {below : List Frame} {meth : Method} {c : Code} {b : Nat} {xs : Nat → Int32} {H : Heap} {locs : List Loc} {ls : Array Slot} {dC : Nat → ClassId} {dI : Nat → Nat → Nat} {sk sv : Nat → Nat} {s2 tz s3 : Nat} (q r : Nat → Nat) (kB : ClassId) (kR : ClassId) (kT : ClassId) (kU : ClassId) (kL : ClassId) (kN : ClassId) (fB fT : Nat → Int32) (qo : Nat) (hlt : l.stackTraces = false) (C0 : lw_At p s m meth c b 6 xs) (hG : gxP s) (hE : exP sk sv s2 tz (fun q : Nat => s.heap.size ≤ q) s s.heap) (hT : tP s3 (fun q : Nat => s.heap.size ≤ q) s s.heap) (hK : va_K (dC, dI) vwCl [(kB, .int), (kR, .int), (kT, .byte), (kU, .int), (kL, .int), (kN, .int)] s) (hP : va_P (dC, dI) vwCl [((q 15), .inr (11, xF q 0 1)), ((q 0), .inr (8, [.ref (q 16), .int 0, .int 0, .int 0])), ((q 16), .inl (kB, 240, .inl fB)), ((q 1), .inr (5, [.int 0, .int 0, .int 0, .int 0, .ref (q 20), .ref (q 21), .ref (q 22), .ref (q 23)])), ((q 2), .inr (5, [.int 0, .int 0, .int 0, .int 0, .ref (q 24), .ref (q 25), .ref (q 26), .ref (q 27)])), ((q 24), .inl (kR, 2, .inl (fun _ => 0))), ((q 3), .inr (2, [.ref (q 0), .ref (q 28), .int 0])), ((q 4), .inr (3, [.ref (q 30), .ref (q 31), .ref (q 32), .int 0, .int 0, .int (-1), .int 0, .int 0, .int 0, .int 0, .int 0, .int 0])), ((q 5), .inr (9, [.ref (q 33), .ref (q 34), .ref (q 35), .int 0, .int 0])), ((q 8), .inr (7, [.ref (q 36), .ref (q 37), .ref (q 38), .ref (q 39), .int 0, .int 0])), ((q 9), .inr (6, [.int 0, .int 0, .int 0, .ref (q 40), .ref (q 41), .ref (q 42), .ref (q 43)])), ((q 11), .inr (0, [.ref (q 44), .int 0, .int 0])), ((r 100), .inr (12, mF r 0 0 0 0 0 0 0 0 0 0 0 0 0 (-1) 1)), ((r 1), .inl (kT, 240, .inl fT)), ((r 18), .inl (kU, 2, .inl (fun _ => 0))), ((r 24), .inl (kL, 5, .inl (fun _ => 0))), ((r 32), .inl (kN, 208, .inl (fun _ => 0)))] H) (hD : va_D (fun q : Nat => s.heap.size ≤ q) [((q 15), .inr (11, xF q 0 1)), ((q 0), .inr (8, [.ref (q 16), .int 0, .int 0, .int 0])), ((q 16), .inl (kB, 240, .inl fB)), ((q 1), .inr (5, [.int 0, .int 0, .int 0, .int 0, .ref (q 20), .ref (q 21), .ref (q 22), .ref (q 23)])), ((q 2), .inr (5, [.int 0, .int 0, .int 0, .int 0, .ref (q 24), .ref (q 25), .ref (q 26), .ref (q 27)])), ((q 24), .inl (kR, 2, .inl (fun _ => 0))), ((q 3), .inr (2, [.ref (q 0), .ref (q 28), .int 0])), ((q 4), .inr (3, [.ref (q 30), .ref (q 31), .ref (q 32), .int 0, .int 0, .int (-1), .int 0, .int 0, .int 0, .int 0, .int 0, .int 0])), ((q 5), .inr (9, [.ref (q 33), .ref (q 34), .ref (q 35), .int 0, .int 0])), ((q 8), .inr (7, [.ref (q 36), .ref (q 37), .ref (q 38), .ref (q 39), .int 0, .int 0])), ((q 9), .inr (6, [.int 0, .int 0, .int 0, .ref (q 40), .ref (q 41), .ref (q 42), .ref (q 43)])), ((q 11), .inr (0, [.ref (q 44), .int 0, .int 0])), ((r 100), .inr (12, mF r 0 0 0 0 0 0 0 0 0 0 0 0 0 (-1) 1)), ((r 1), .inl (kT, 240, .inl fT)), ((r 18), .inl (kU, 2, .inl (fun _ => 0))), ((r 24), .inl (kL, 5, .inl (fun _ => 0))), ((r 32), .inl (kN, 208, .inl (fun _ => 0)))]) (hS : va_S (fun q : Nat => s.heap.size ≤ q) s.heap H locs) (hl : lv_has ls 7 [(0, .ref b), (1, .ref (q 15)), (2, .ref (r 100)), (3, .ref qo), (4, .int 0)]) : W p l e room_1 s m #[Value.ref b] below meth c H locs 335 33214 (lw_Z below #[Value.ref b] s) (F0 m 1479 ls []) := by
  obtain ⟨hx, hb, hr, hml, hown0, hts, hX, hbl, hlocks, hgv⟩ := id C0
  have hown : s.vm.findClass RL = some m.cls := hown0
  have hA : ∀ q : Nat, s.heap.size ≤ q → (fun q : Nat => s.heap.size ≤ q) q := fun _ h => h
  have hbA : ¬ (fun q : Nat => s.heap.size ≤ q) b := Nat.not_le.mpr hbl
  have hiX11 : ∀ w ∈ u_ws RX11 TX11 17, w ∈ lw_tbl := in_X11
  have hiX12 : ∀ w ∈ u_ws RX12 TX12 54, w ∈ lw_tbl := in_X12
  refine lv_aload_n hx hb dL_law_1479 rfl (lv_at hl 1 rfl) ?_
  refine lv_aload_n hx hb dL_law_1480 rfl (lv_at hl 0 rfl) ?_
  refine lv_iload hx hb dL_law_1481 (lv_at hl 4 rfl) ?_
  refine lv_iconst (v := 1) hx hb dL_law_1483 (by decide) ?_
  refine lv_iadd hx hb dL_law_1484 ?_
  refine lv_topi (fun v_1 e_1 => ?_)
  obtain rfl : v_1 = 1 := by rw [e_1]; decide
  refine va_sld hx hb hX hbl hbA hS (i := 1) (vp_in_nI (n := 1) (by decide) (by decide)) dL_law_1485 ?_
  refine lv_topi (fun v_2 e_2 => ?_)
  obtain rfl : v_2 = xs 1 := by rw [e_2]; exact congrArg xs (by decide)
  refine lv_aload_n hx hb dL_law_1486 rfl (lv_at hl 0 rfl) ?_
  refine lv_iload hx hb dL_law_1487 (lv_at hl 4 rfl) ?_
  refine lv_iconst (v := 2) hx hb dL_law_1489 (by decide) ?_
  refine lv_iadd hx hb dL_law_1490 ?_
  refine lv_topi (fun v_3 e_3 => ?_)
  obtain rfl : v_3 = 2 := by rw [e_3]; decide
  refine va_sld hx hb hX hbl hbA hS (i := 2) (vp_in_nI (n := 2) (by decide) (by decide)) dL_law_1491 ?_
  refine lv_topi (fun v_4 e_4 => ?_)
  obtain rfl : v_4 = xs 2 := by rw [e_4]; exact congrArg xs (by decide)
  have hPc := hP.sub (ws' := [((q 15), .inr (11, xF q 0 1)), ((q 1), .inr (5, [.int 0, .int 0, .int 0, .int 0, .ref (q 20), .ref (q 21), .ref (q 22), .ref (q 23)]))]) [0, 3] rfl
  have hDc := hD.sub (ws' := [((q 15), .inr (11, xF q 0 1)), ((q 1), .inr (5, [.int 0, .int 0, .int 0, .int 0, .ref (q 20), .ref (q 21), .ref (q 22), .ref (q 23)]))]) [0, 3] (by decide) rfl
  have hKc := hK.sub (tys' := []) [] rfl
  have hFc := va_free (wc := [((q 15), .inr (11, xF q 0 1)), ((q 1), .inr (5, [.int 0, .int 0, .int 0, .int 0, .ref (q 20), .ref (q 21), .ref (q 22), .ref (q 23)]))]) hD hS hA [0, 3] rfl
  refine va_calli (va_runV (As := [.int (xs 1), .int (xs 2)]) (rest := []) ⟨hx, hb, hml, hown, hts⟩ (f_X11_shares l dC dI H.size q ((xs 1)) ((xs 2))) (cwV 2 hts g_f_L_law_f_X11_shares rfl rfl rfl (by decide +kernel) ⟨Nat.le_of_ble_eq_true rfl, Nat.le_of_ble_eq_true rfl⟩) ⟨cW_blind, va_recv hKc hPc (ci := 11) (q0 := 0) rfl rfl, fun U hU hW => ⟨rfl, cW_use hU hW hPc hKc hDc hG⟩⟩ rfl rfl hl.1 rfl (lv_room (Nat.le_of_ble_eq_true rfl)) dL_law_1492 ⟨Nat.le_of_ble_eq_true rfl, Nat.le_of_ble_eq_true rfl⟩) hS (fun q _ h => hFc q h) hFc (fun r_5 u t H1 locs ht hvm hw hB hz1 hk1 hS => ?_)
  obtain ⟨hP, hD⟩ := va_join (wr := [((q 0), .inr (8, [.ref (q 16), .int 0, .int 0, .int 0])), ((q 16), .inl (kB, 240, .inl fB)), ((q 2), .inr (5, [.int 0, .int 0, .int 0, .int 0, .ref (q 24), .ref (q 25), .ref (q 26), .ref (q 27)])), ((q 24), .inl (kR, 2, .inl (fun _ => 0))), ((q 3), .inr (2, [.ref (q 0), .ref (q 28), .int 0])), ((q 4), .inr (3, [.ref (q 30), .ref (q 31), .ref (q 32), .int 0, .int 0, .int (-1), .int 0, .int 0, .int 0, .int 0, .int 0, .int 0])), ((q 5), .inr (9, [.ref (q 33), .ref (q 34), .ref (q 35), .int 0, .int 0])), ((q 8), .inr (7, [.ref (q 36), .ref (q 37), .ref (q 38), .ref (q 39), .int 0, .int 0])), ((q 9), .inr (6, [.int 0, .int 0, .int 0, .ref (q 40), .ref (q 41), .ref (q 42), .ref (q 43)])), ((q 11), .inr (0, [.ref (q 44), .int 0, .int 0])), ((r 100), .inr (12, mF r 0 0 0 0 0 0 0 0 0 0 0 0 0 (-1) 1)), ((r 1), .inl (kT, 240, .inl fT)), ((r 18), .inl (kU, 2, .inl (fun _ => 0))), ((r 24), .inl (kL, 5, .inl (fun _ => 0))), ((r 32), .inl (kN, 208, .inl (fun _ => 0)))]) (w1 := []) hP hD [0, 3] [1, 2, 4, 5, 6, 7, 8, 9, 10, 11, 12, 13, 14, 15, 16] rfl rfl (by decide) (by decide) hk1 hFc (va_P_nil H1) va_D_nil
  generalize H1 = H at hP hS ⊢
  have hP : va_P (dC, dI) vwCl [((q 0), .inr (8, [.ref (q 16), .int 0, .int 0, .int 0])), ((q 16), .inl (kB, 240, .inl fB)), ((q 2), .inr (5, [.int 0, .int 0, .int 0, .int 0, .ref (q 24), .ref (q 25), .ref (q 26), .ref (q 27)])), ((q 24), .inl (kR, 2, .inl (fun _ => 0))), ((q 3), .inr (2, [.ref (q 0), .ref (q 28), .int 0])), ((q 4), .inr (3, [.ref (q 30), .ref (q 31), .ref (q 32), .int 0, .int 0, .int (-1), .int 0, .int 0, .int 0, .int 0, .int 0, .int 0])), ((q 5), .inr (9, [.ref (q 33), .ref (q 34), .ref (q 35), .int 0, .int 0])), ((q 8), .inr (7, [.ref (q 36), .ref (q 37), .ref (q 38), .ref (q 39), .int 0, .int 0])), ((q 9), .inr (6, [.int 0, .int 0, .int 0, .ref (q 40), .ref (q 41), .ref (q 42), .ref (q 43)])), ((q 11), .inr (0, [.ref (q 44), .int 0, .int 0])), ((r 100), .inr (12, mF r 0 0 0 0 0 0 0 0 0 0 0 0 0 (-1) 1)), ((r 1), .inl (kT, 240, .inl fT)), ((r 18), .inl (kU, 2, .inl (fun _ => 0))), ((r 24), .inl (kL, 5, .inl (fun _ => 0))), ((r 32), .inl (kN, 208, .inl (fun _ => 0)))] H := hP
  have hD : va_D (fun q : Nat => s.heap.size ≤ q) [((q 0), .inr (8, [.ref (q 16), .int 0, .int 0, .int 0])), ((q 16), .inl (kB, 240, .inl fB)), ((q 2), .inr (5, [.int 0, .int 0, .int 0, .int 0, .ref (q 24), .ref (q 25), .ref (q 26), .ref (q 27)])), ((q 24), .inl (kR, 2, .inl (fun _ => 0))), ((q 3), .inr (2, [.ref (q 0), .ref (q 28), .int 0])), ((q 4), .inr (3, [.ref (q 30), .ref (q 31), .ref (q 32), .int 0, .int 0, .int (-1), .int 0, .int 0, .int 0, .int 0, .int 0, .int 0])), ((q 5), .inr (9, [.ref (q 33), .ref (q 34), .ref (q 35), .int 0, .int 0])), ((q 8), .inr (7, [.ref (q 36), .ref (q 37), .ref (q 38), .ref (q 39), .int 0, .int 0])), ((q 9), .inr (6, [.int 0, .int 0, .int 0, .ref (q 40), .ref (q 41), .ref (q 42), .ref (q 43)])), ((q 11), .inr (0, [.ref (q 44), .int 0, .int 0])), ((r 100), .inr (12, mF r 0 0 0 0 0 0 0 0 0 0 0 0 0 (-1) 1)), ((r 1), .inl (kT, 240, .inl fT)), ((r 18), .inl (kU, 2, .inl (fun _ => 0))), ((r 24), .inl (kL, 5, .inl (fun _ => 0))), ((r 32), .inl (kN, 208, .inl (fun _ => 0)))] := hD
  refine W.widen (k := 335) (n := 33214) (Nat.le_of_ble_eq_true rfl) (Nat.le_of_ble_eq_true rfl) ?_
  obtain rfl : r_5 = (-1) := hw
  refine lv_aload_n hx hb dL_law_1495 rfl (lv_at hl 2 rfl) ?_
  refine lv_aload_n hx hb dL_law_1496 rfl (lv_at hl 0 rfl) ?_
  refine lv_iload hx hb dL_law_1497 (lv_at hl 4 rfl) ?_
  refine lv_iconst (v := 1) hx hb dL_law_1499 (by decide) ?_
  refine lv_iadd hx hb dL_law_1500 ?_
  refine lv_topi (fun v_6 e_6 => ?_)
  obtain rfl : v_6 = 1 := by rw [e_6]; decide
  refine va_sld hx hb hX hbl hbA hS (i := 1) (vp_in_nI (n := 1) (by decide) (by decide)) dL_law_1501 ?_
  refine lv_topi (fun v_7 e_7 => ?_)
  obtain rfl : v_7 = xs 1 := by rw [e_7]; exact congrArg xs (by decide)
  refine lv_aload_n hx hb dL_law_1502 rfl (lv_at hl 0 rfl) ?_
  refine lv_iload hx hb dL_law_1503 (lv_at hl 4 rfl) ?_
  refine lv_iconst (v := 2) hx hb dL_law_1505 (by decide) ?_
  refine lv_iadd hx hb dL_law_1506 ?_
  refine lv_topi (fun v_8 e_8 => ?_)
  obtain rfl : v_8 = 2 := by rw [e_8]; decide
  refine va_sld hx hb hX hbl hbA hS (i := 2) (vp_in_nI (n := 2) (by decide) (by decide)) dL_law_1507 ?_
  refine lv_topi (fun v_9 e_9 => ?_)
  obtain rfl : v_9 = xs 2 := by rw [e_9]; exact congrArg xs (by decide)
  have hPc := hP.sub (ws' := [((r 100), .inr (12, mF r 0 0 0 0 0 0 0 0 0 0 0 0 0 (-1) 1))]) [10] rfl
  have hDc := hD.sub (ws' := [((r 100), .inr (12, mF r 0 0 0 0 0 0 0 0 0 0 0 0 0 (-1) 1))]) [10] (by decide) rfl
  have hKc := hK.sub (tys' := []) [] rfl
  have hFc := va_free (wc := [((r 100), .inr (12, mF r 0 0 0 0 0 0 0 0 0 0 0 0 0 (-1) 1))]) hD hS hA [10] rfl
  refine va_calli (va_runV (As := [.int (xs 1), .int (xs 2)]) (rest := [.int (-1)]) ⟨hx, hb, hml, hown, hts⟩ (f_X12_shares l dC dI H.size r ((xs 1)) ((xs 2))) (cwV 2 hts g_f_L_law_f_X12_shares rfl rfl rfl (by decide +kernel) ⟨Nat.le_of_ble_eq_true rfl, Nat.le_of_ble_eq_true rfl⟩) ⟨cW_blind, va_recv hKc hPc (ci := 12) (q0 := 0) rfl rfl, fun U hU hW => ⟨rfl, cW_use hU hW hPc hKc hDc hG⟩⟩ rfl rfl hl.1 rfl (lv_room (Nat.le_of_ble_eq_true rfl)) dL_law_1508 ⟨Nat.le_of_ble_eq_true rfl, Nat.le_of_ble_eq_true rfl⟩) hS (fun q _ h => hFc q h) hFc (fun r_10 u t H1 locs ht hvm hw hB hz1 hk1 hS => ?_)
  obtain ⟨hP, hD⟩ := va_join (wr := [((q 0), .inr (8, [.ref (q 16), .int 0, .int 0, .int 0])), ((q 16), .inl (kB, 240, .inl fB)), ((q 2), .inr (5, [.int 0, .int 0, .int 0, .int 0, .ref (q 24), .ref (q 25), .ref (q 26), .ref (q 27)])), ((q 24), .inl (kR, 2, .inl (fun _ => 0))), ((q 3), .inr (2, [.ref (q 0), .ref (q 28), .int 0])), ((q 4), .inr (3, [.ref (q 30), .ref (q 31), .ref (q 32), .int 0, .int 0, .int (-1), .int 0, .int 0, .int 0, .int 0, .int 0, .int 0])), ((q 5), .inr (9, [.ref (q 33), .ref (q 34), .ref (q 35), .int 0, .int 0])), ((q 8), .inr (7, [.ref (q 36), .ref (q 37), .ref (q 38), .ref (q 39), .int 0, .int 0])), ((q 9), .inr (6, [.int 0, .int 0, .int 0, .ref (q 40), .ref (q 41), .ref (q 42), .ref (q 43)])), ((q 11), .inr (0, [.ref (q 44), .int 0, .int 0])), ((r 1), .inl (kT, 240, .inl fT)), ((r 18), .inl (kU, 2, .inl (fun _ => 0))), ((r 24), .inl (kL, 5, .inl (fun _ => 0))), ((r 32), .inl (kN, 208, .inl (fun _ => 0)))]) (w1 := []) hP hD [10] [0, 1, 2, 3, 4, 5, 6, 7, 8, 9, 11, 12, 13, 14] rfl rfl (by decide) (by decide) hk1 hFc (va_P_nil H1) va_D_nil
  generalize H1 = H at hP hS ⊢
  have hP : va_P (dC, dI) vwCl [((q 0), .inr (8, [.ref (q 16), .int 0, .int 0, .int 0])), ((q 16), .inl (kB, 240, .inl fB)), ((q 2), .inr (5, [.int 0, .int 0, .int 0, .int 0, .ref (q 24), .ref (q 25), .ref (q 26), .ref (q 27)])), ((q 24), .inl (kR, 2, .inl (fun _ => 0))), ((q 3), .inr (2, [.ref (q 0), .ref (q 28), .int 0])), ((q 4), .inr (3, [.ref (q 30), .ref (q 31), .ref (q 32), .int 0, .int 0, .int (-1), .int 0, .int 0, .int 0, .int 0, .int 0, .int 0])), ((q 5), .inr (9, [.ref (q 33), .ref (q 34), .ref (q 35), .int 0, .int 0])), ((q 8), .inr (7, [.ref (q 36), .ref (q 37), .ref (q 38), .ref (q 39), .int 0, .int 0])), ((q 9), .inr (6, [.int 0, .int 0, .int 0, .ref (q 40), .ref (q 41), .ref (q 42), .ref (q 43)])), ((q 11), .inr (0, [.ref (q 44), .int 0, .int 0])), ((r 1), .inl (kT, 240, .inl fT)), ((r 18), .inl (kU, 2, .inl (fun _ => 0))), ((r 24), .inl (kL, 5, .inl (fun _ => 0))), ((r 32), .inl (kN, 208, .inl (fun _ => 0)))] H := hP
  have hD : va_D (fun q : Nat => s.heap.size ≤ q) [((q 0), .inr (8, [.ref (q 16), .int 0, .int 0, .int 0])), ((q 16), .inl (kB, 240, .inl fB)), ((q 2), .inr (5, [.int 0, .int 0, .int 0, .int 0, .ref (q 24), .ref (q 25), .ref (q 26), .ref (q 27)])), ((q 24), .inl (kR, 2, .inl (fun _ => 0))), ((q 3), .inr (2, [.ref (q 0), .ref (q 28), .int 0])), ((q 4), .inr (3, [.ref (q 30), .ref (q 31), .ref (q 32), .int 0, .int 0, .int (-1), .int 0, .int 0, .int 0, .int 0, .int 0, .int 0])), ((q 5), .inr (9, [.ref (q 33), .ref (q 34), .ref (q 35), .int 0, .int 0])), ((q 8), .inr (7, [.ref (q 36), .ref (q 37), .ref (q 38), .ref (q 39), .int 0, .int 0])), ((q 9), .inr (6, [.int 0, .int 0, .int 0, .ref (q 40), .ref (q 41), .ref (q 42), .ref (q 43)])), ((q 11), .inr (0, [.ref (q 44), .int 0, .int 0])), ((r 1), .inl (kT, 240, .inl fT)), ((r 18), .inl (kU, 2, .inl (fun _ => 0))), ((r 24), .inl (kL, 5, .inl (fun _ => 0))), ((r 32), .inl (kN, 208, .inl (fun _ => 0)))] := hD
  refine W.widen (k := 335) (n := 33214) (Nat.le_of_ble_eq_true rfl) (Nat.le_of_ble_eq_true rfl) ?_
  obtain rfl : r_10 = (-1) := hw
  refine lv_icmp_eq (tgt := 1629) hx hb dL_law_1511 (by decide) (fun c_11 => ?_) (fun c_11 => absurd (by decide) c_11)
  exact lc_exit C0 hS (by decide) (by decide) ls (lv_sub hl [0, 4] rfl)
set_option maxHeartbeats 4000000 in
set_option maxRecDepth 100000 in
theorem lc_37 {p : Program} {l : Launch} {e : Env} {s : State} {m : MethodId} {below : List Frame} {meth : Method} {c : Code} {b : Nat} {xs : Nat → Int32} {H : Heap} {locs : List Loc} {ls : Array Slot} {dC : Nat → ClassId} {dI : Nat → Nat → Nat} {sk sv : Nat → Nat} {s2 tz s3 : Nat} (q r : Nat → Nat) (kB : ClassId) (kR : ClassId) (kT : ClassId) (kU : ClassId) (kL : ClassId) (kN : ClassId) (fB fT : Nat → Int32) (qo : Nat) (hlt : l.stackTraces = false) (C0 : lw_At p s m meth c b 6 xs) (hG : gxP s) (hE : exP sk sv s2 tz (fun q : Nat => s.heap.size ≤ q) s s.heap) (hT : tP s3 (fun q : Nat => s.heap.size ≤ q) s s.heap) (hK : va_K (dC, dI) vwCl [(kB, .int), (kR, .int), (kT, .byte), (kU, .int), (kL, .int), (kN, .int)] s) (hP : va_P (dC, dI) vwCl [((q 15), .inr (11, xF q 0 1)), ((q 0), .inr (8, [.ref (q 16), .int 0, .int 0, .int 0])), ((q 16), .inl (kB, 240, .inl fB)), ((q 1), .inr (5, [.int 0, .int 0, .int 0, .int 0, .ref (q 20), .ref (q 21), .ref (q 22), .ref (q 23)])), ((q 2), .inr (5, [.int 0, .int 0, .int 0, .int 0, .ref (q 24), .ref (q 25), .ref (q 26), .ref (q 27)])), ((q 24), .inl (kR, 2, .inl (fun _ => 0))), ((q 3), .inr (2, [.ref (q 0), .ref (q 28), .int 0])), ((q 4), .inr (3, [.ref (q 30), .ref (q 31), .ref (q 32), .int 0, .int 0, .int (-1), .int 0, .int 0, .int 0, .int 0, .int 0, .int 0])), ((q 5), .inr (9, [.ref (q 33), .ref (q 34), .ref (q 35), .int 0, .int 0])), ((q 8), .inr (7, [.ref (q 36), .ref (q 37), .ref (q 38), .ref (q 39), .int 0, .int 0])), ((q 9), .inr (6, [.int 0, .int 0, .int 0, .ref (q 40), .ref (q 41), .ref (q 42), .ref (q 43)])), ((q 11), .inr (0, [.ref (q 44), .int 0, .int 0])), ((r 100), .inr (12, mF r 0 0 0 0 0 0 0 0 0 0 0 0 0 (-1) 1)), ((r 1), .inl (kT, 240, .inl fT)), ((r 18), .inl (kU, 2, .inl (fun _ => 0))), ((r 24), .inl (kL, 5, .inl (fun _ => 0))), ((r 32), .inl (kN, 208, .inl (fun _ => 0)))] H) (hD : va_D (fun q : Nat => s.heap.size ≤ q) [((q 15), .inr (11, xF q 0 1)), ((q 0), .inr (8, [.ref (q 16), .int 0, .int 0, .int 0])), ((q 16), .inl (kB, 240, .inl fB)), ((q 1), .inr (5, [.int 0, .int 0, .int 0, .int 0, .ref (q 20), .ref (q 21), .ref (q 22), .ref (q 23)])), ((q 2), .inr (5, [.int 0, .int 0, .int 0, .int 0, .ref (q 24), .ref (q 25), .ref (q 26), .ref (q 27)])), ((q 24), .inl (kR, 2, .inl (fun _ => 0))), ((q 3), .inr (2, [.ref (q 0), .ref (q 28), .int 0])), ((q 4), .inr (3, [.ref (q 30), .ref (q 31), .ref (q 32), .int 0, .int 0, .int (-1), .int 0, .int 0, .int 0, .int 0, .int 0, .int 0])), ((q 5), .inr (9, [.ref (q 33), .ref (q 34), .ref (q 35), .int 0, .int 0])), ((q 8), .inr (7, [.ref (q 36), .ref (q 37), .ref (q 38), .ref (q 39), .int 0, .int 0])), ((q 9), .inr (6, [.int 0, .int 0, .int 0, .ref (q 40), .ref (q 41), .ref (q 42), .ref (q 43)])), ((q 11), .inr (0, [.ref (q 44), .int 0, .int 0])), ((r 100), .inr (12, mF r 0 0 0 0 0 0 0 0 0 0 0 0 0 (-1) 1)), ((r 1), .inl (kT, 240, .inl fT)), ((r 18), .inl (kU, 2, .inl (fun _ => 0))), ((r 24), .inl (kL, 5, .inl (fun _ => 0))), ((r 32), .inl (kN, 208, .inl (fun _ => 0)))]) (hS : va_S (fun q : Nat => s.heap.size ≤ q) s.heap H locs) (hl : lv_has ls 7 [(0, .ref b), (1, .ref (q 15)), (2, .ref (r 100)), (3, .ref qo), (4, .int 0)]) : W p l e room_1 s m #[Value.ref b] below meth c H locs 335 33214 (lw_Z below #[Value.ref b] s) (F0 m 1516 ls []) := by
  obtain ⟨hx, hb, hr, hml, hown0, hts, hX, hbl, hlocks, hgv⟩ := id C0
  have hown : s.vm.findClass RL = some m.cls := hown0
  have hA : ∀ q : Nat, s.heap.size ≤ q → (fun q : Nat => s.heap.size ≤ q) q := fun _ h => h
  have hbA : ¬ (fun q : Nat => s.heap.size ≤ q) b := Nat.not_le.mpr hbl
  have hiX11 : ∀ w ∈ u_ws RX11 TX11 17, w ∈ lw_tbl := in_X11
  have hiX12 : ∀ w ∈ u_ws RX12 TX12 54, w ∈ lw_tbl := in_X12
  refine lv_aload_n hx hb dL_law_1516 rfl (lv_at hl 1 rfl) ?_
  refine lv_aload_n hx hb dL_law_1517 rfl (lv_at hl 0 rfl) ?_
  refine lv_iload hx hb dL_law_1518 (lv_at hl 4 rfl) ?_
  refine lv_iconst (v := 1) hx hb dL_law_1520 (by decide) ?_
  refine lv_iadd hx hb dL_law_1521 ?_
  refine lv_topi (fun v_1 e_1 => ?_)
  obtain rfl : v_1 = 1 := by rw [e_1]; decide
  refine va_sld hx hb hX hbl hbA hS (i := 1) (vp_in_nI (n := 1) (by decide) (by decide)) dL_law_1522 ?_
  refine lv_topi (fun v_2 e_2 => ?_)
  obtain rfl : v_2 = xs 1 := by rw [e_2]; exact congrArg xs (by decide)
  have hPc := hP.sub (ws' := [((q 15), .inr (11, xF q 0 1)), ((q 1), .inr (5, [.int 0, .int 0, .int 0, .int 0, .ref (q 20), .ref (q 21), .ref (q 22), .ref (q 23)]))]) [0, 3] rfl
  have hDc := hD.sub (ws' := [((q 15), .inr (11, xF q 0 1)), ((q 1), .inr (5, [.int 0, .int 0, .int 0, .int 0, .ref (q 20), .ref (q 21), .ref (q 22), .ref (q 23)]))]) [0, 3] (by decide) rfl
  have hKc := hK.sub (tys' := []) [] rfl
  have hFc := va_free (wc := [((q 15), .inr (11, xF q 0 1)), ((q 1), .inr (5, [.int 0, .int 0, .int 0, .int 0, .ref (q 20), .ref (q 21), .ref (q 22), .ref (q 23)]))]) hD hS hA [0, 3] rfl
  refine va_calli (va_runV (As := [.int (xs 1)]) (rest := []) ⟨hx, hb, hml, hown, hts⟩ (f_X11_all l dC dI H.size q ((xs 1))) (cwV 1 hts g_f_L_law_f_X11_all rfl rfl rfl (by decide +kernel) ⟨Nat.le_of_ble_eq_true rfl, Nat.le_of_ble_eq_true rfl⟩) ⟨cW_blind, va_recv hKc hPc (ci := 11) (q0 := 0) rfl rfl, fun U hU hW => ⟨rfl, cW_use hU hW hPc hKc hDc hG⟩⟩ rfl rfl hl.1 rfl (lv_room (Nat.le_of_ble_eq_true rfl)) dL_law_1523 ⟨Nat.le_of_ble_eq_true rfl, Nat.le_of_ble_eq_true rfl⟩) hS (fun q _ h => hFc q h) hFc (fun r_3 u t H1 locs ht hvm hw hB hz1 hk1 hS => ?_)
  obtain ⟨hP, hD⟩ := va_join (wr := [((q 0), .inr (8, [.ref (q 16), .int 0, .int 0, .int 0])), ((q 16), .inl (kB, 240, .inl fB)), ((q 2), .inr (5, [.int 0, .int 0, .int 0, .int 0, .ref (q 24), .ref (q 25), .ref (q 26), .ref (q 27)])), ((q 24), .inl (kR, 2, .inl (fun _ => 0))), ((q 3), .inr (2, [.ref (q 0), .ref (q 28), .int 0])), ((q 4), .inr (3, [.ref (q 30), .ref (q 31), .ref (q 32), .int 0, .int 0, .int (-1), .int 0, .int 0, .int 0, .int 0, .int 0, .int 0])), ((q 5), .inr (9, [.ref (q 33), .ref (q 34), .ref (q 35), .int 0, .int 0])), ((q 8), .inr (7, [.ref (q 36), .ref (q 37), .ref (q 38), .ref (q 39), .int 0, .int 0])), ((q 9), .inr (6, [.int 0, .int 0, .int 0, .ref (q 40), .ref (q 41), .ref (q 42), .ref (q 43)])), ((q 11), .inr (0, [.ref (q 44), .int 0, .int 0])), ((r 100), .inr (12, mF r 0 0 0 0 0 0 0 0 0 0 0 0 0 (-1) 1)), ((r 1), .inl (kT, 240, .inl fT)), ((r 18), .inl (kU, 2, .inl (fun _ => 0))), ((r 24), .inl (kL, 5, .inl (fun _ => 0))), ((r 32), .inl (kN, 208, .inl (fun _ => 0)))]) (w1 := []) hP hD [0, 3] [1, 2, 4, 5, 6, 7, 8, 9, 10, 11, 12, 13, 14, 15, 16] rfl rfl (by decide) (by decide) hk1 hFc (va_P_nil H1) va_D_nil
  generalize H1 = H at hP hS ⊢
  have hP : va_P (dC, dI) vwCl [((q 0), .inr (8, [.ref (q 16), .int 0, .int 0, .int 0])), ((q 16), .inl (kB, 240, .inl fB)), ((q 2), .inr (5, [.int 0, .int 0, .int 0, .int 0, .ref (q 24), .ref (q 25), .ref (q 26), .ref (q 27)])), ((q 24), .inl (kR, 2, .inl (fun _ => 0))), ((q 3), .inr (2, [.ref (q 0), .ref (q 28), .int 0])), ((q 4), .inr (3, [.ref (q 30), .ref (q 31), .ref (q 32), .int 0, .int 0, .int (-1), .int 0, .int 0, .int 0, .int 0, .int 0, .int 0])), ((q 5), .inr (9, [.ref (q 33), .ref (q 34), .ref (q 35), .int 0, .int 0])), ((q 8), .inr (7, [.ref (q 36), .ref (q 37), .ref (q 38), .ref (q 39), .int 0, .int 0])), ((q 9), .inr (6, [.int 0, .int 0, .int 0, .ref (q 40), .ref (q 41), .ref (q 42), .ref (q 43)])), ((q 11), .inr (0, [.ref (q 44), .int 0, .int 0])), ((r 100), .inr (12, mF r 0 0 0 0 0 0 0 0 0 0 0 0 0 (-1) 1)), ((r 1), .inl (kT, 240, .inl fT)), ((r 18), .inl (kU, 2, .inl (fun _ => 0))), ((r 24), .inl (kL, 5, .inl (fun _ => 0))), ((r 32), .inl (kN, 208, .inl (fun _ => 0)))] H := hP
  have hD : va_D (fun q : Nat => s.heap.size ≤ q) [((q 0), .inr (8, [.ref (q 16), .int 0, .int 0, .int 0])), ((q 16), .inl (kB, 240, .inl fB)), ((q 2), .inr (5, [.int 0, .int 0, .int 0, .int 0, .ref (q 24), .ref (q 25), .ref (q 26), .ref (q 27)])), ((q 24), .inl (kR, 2, .inl (fun _ => 0))), ((q 3), .inr (2, [.ref (q 0), .ref (q 28), .int 0])), ((q 4), .inr (3, [.ref (q 30), .ref (q 31), .ref (q 32), .int 0, .int 0, .int (-1), .int 0, .int 0, .int 0, .int 0, .int 0, .int 0])), ((q 5), .inr (9, [.ref (q 33), .ref (q 34), .ref (q 35), .int 0, .int 0])), ((q 8), .inr (7, [.ref (q 36), .ref (q 37), .ref (q 38), .ref (q 39), .int 0, .int 0])), ((q 9), .inr (6, [.int 0, .int 0, .int 0, .ref (q 40), .ref (q 41), .ref (q 42), .ref (q 43)])), ((q 11), .inr (0, [.ref (q 44), .int 0, .int 0])), ((r 100), .inr (12, mF r 0 0 0 0 0 0 0 0 0 0 0 0 0 (-1) 1)), ((r 1), .inl (kT, 240, .inl fT)), ((r 18), .inl (kU, 2, .inl (fun _ => 0))), ((r 24), .inl (kL, 5, .inl (fun _ => 0))), ((r 32), .inl (kN, 208, .inl (fun _ => 0)))] := hD
  refine W.widen (k := 335) (n := 33214) (Nat.le_of_ble_eq_true rfl) (Nat.le_of_ble_eq_true rfl) ?_
  obtain rfl : r_3 = (-1) := hw
  refine lv_aload_n hx hb dL_law_1526 rfl (lv_at hl 2 rfl) ?_
  refine lv_aload_n hx hb dL_law_1527 rfl (lv_at hl 0 rfl) ?_
  refine lv_iload hx hb dL_law_1528 (lv_at hl 4 rfl) ?_
  refine lv_iconst (v := 1) hx hb dL_law_1530 (by decide) ?_
  refine lv_iadd hx hb dL_law_1531 ?_
  refine lv_topi (fun v_4 e_4 => ?_)
  obtain rfl : v_4 = 1 := by rw [e_4]; decide
  refine va_sld hx hb hX hbl hbA hS (i := 1) (vp_in_nI (n := 1) (by decide) (by decide)) dL_law_1532 ?_
  refine lv_topi (fun v_5 e_5 => ?_)
  obtain rfl : v_5 = xs 1 := by rw [e_5]; exact congrArg xs (by decide)
  have hPc := hP.sub (ws' := [((r 100), .inr (12, mF r 0 0 0 0 0 0 0 0 0 0 0 0 0 (-1) 1))]) [10] rfl
  have hDc := hD.sub (ws' := [((r 100), .inr (12, mF r 0 0 0 0 0 0 0 0 0 0 0 0 0 (-1) 1))]) [10] (by decide) rfl
  have hKc := hK.sub (tys' := []) [] rfl
  have hFc := va_free (wc := [((r 100), .inr (12, mF r 0 0 0 0 0 0 0 0 0 0 0 0 0 (-1) 1))]) hD hS hA [10] rfl
  refine va_calli (va_runV (As := [.int (xs 1)]) (rest := [.int (-1)]) ⟨hx, hb, hml, hown, hts⟩ (f_X12_all l dC dI H.size r ((xs 1))) (cwV 1 hts g_f_L_law_f_X12_all rfl rfl rfl (by decide +kernel) ⟨Nat.le_of_ble_eq_true rfl, Nat.le_of_ble_eq_true rfl⟩) ⟨cW_blind, va_recv hKc hPc (ci := 12) (q0 := 0) rfl rfl, fun U hU hW => ⟨rfl, cW_use hU hW hPc hKc hDc hG⟩⟩ rfl rfl hl.1 rfl (lv_room (Nat.le_of_ble_eq_true rfl)) dL_law_1533 ⟨Nat.le_of_ble_eq_true rfl, Nat.le_of_ble_eq_true rfl⟩) hS (fun q _ h => hFc q h) hFc (fun r_6 u t H1 locs ht hvm hw hB hz1 hk1 hS => ?_)
  obtain ⟨hP, hD⟩ := va_join (wr := [((q 0), .inr (8, [.ref (q 16), .int 0, .int 0, .int 0])), ((q 16), .inl (kB, 240, .inl fB)), ((q 2), .inr (5, [.int 0, .int 0, .int 0, .int 0, .ref (q 24), .ref (q 25), .ref (q 26), .ref (q 27)])), ((q 24), .inl (kR, 2, .inl (fun _ => 0))), ((q 3), .inr (2, [.ref (q 0), .ref (q 28), .int 0])), ((q 4), .inr (3, [.ref (q 30), .ref (q 31), .ref (q 32), .int 0, .int 0, .int (-1), .int 0, .int 0, .int 0, .int 0, .int 0, .int 0])), ((q 5), .inr (9, [.ref (q 33), .ref (q 34), .ref (q 35), .int 0, .int 0])), ((q 8), .inr (7, [.ref (q 36), .ref (q 37), .ref (q 38), .ref (q 39), .int 0, .int 0])), ((q 9), .inr (6, [.int 0, .int 0, .int 0, .ref (q 40), .ref (q 41), .ref (q 42), .ref (q 43)])), ((q 11), .inr (0, [.ref (q 44), .int 0, .int 0])), ((r 1), .inl (kT, 240, .inl fT)), ((r 18), .inl (kU, 2, .inl (fun _ => 0))), ((r 24), .inl (kL, 5, .inl (fun _ => 0))), ((r 32), .inl (kN, 208, .inl (fun _ => 0)))]) (w1 := []) hP hD [10] [0, 1, 2, 3, 4, 5, 6, 7, 8, 9, 11, 12, 13, 14] rfl rfl (by decide) (by decide) hk1 hFc (va_P_nil H1) va_D_nil
  generalize H1 = H at hP hS ⊢
  have hP : va_P (dC, dI) vwCl [((q 0), .inr (8, [.ref (q 16), .int 0, .int 0, .int 0])), ((q 16), .inl (kB, 240, .inl fB)), ((q 2), .inr (5, [.int 0, .int 0, .int 0, .int 0, .ref (q 24), .ref (q 25), .ref (q 26), .ref (q 27)])), ((q 24), .inl (kR, 2, .inl (fun _ => 0))), ((q 3), .inr (2, [.ref (q 0), .ref (q 28), .int 0])), ((q 4), .inr (3, [.ref (q 30), .ref (q 31), .ref (q 32), .int 0, .int 0, .int (-1), .int 0, .int 0, .int 0, .int 0, .int 0, .int 0])), ((q 5), .inr (9, [.ref (q 33), .ref (q 34), .ref (q 35), .int 0, .int 0])), ((q 8), .inr (7, [.ref (q 36), .ref (q 37), .ref (q 38), .ref (q 39), .int 0, .int 0])), ((q 9), .inr (6, [.int 0, .int 0, .int 0, .ref (q 40), .ref (q 41), .ref (q 42), .ref (q 43)])), ((q 11), .inr (0, [.ref (q 44), .int 0, .int 0])), ((r 1), .inl (kT, 240, .inl fT)), ((r 18), .inl (kU, 2, .inl (fun _ => 0))), ((r 24), .inl (kL, 5, .inl (fun _ => 0))), ((r 32), .inl (kN, 208, .inl (fun _ => 0)))] H := hP
  have hD : va_D (fun q : Nat => s.heap.size ≤ q) [((q 0), .inr (8, [.ref (q 16), .int 0, .int 0, .int 0])), ((q 16), .inl (kB, 240, .inl fB)), ((q 2), .inr (5, [.int 0, .int 0, .int 0, .int 0, .ref (q 24), .ref (q 25), .ref (q 26), .ref (q 27)])), ((q 24), .inl (kR, 2, .inl (fun _ => 0))), ((q 3), .inr (2, [.ref (q 0), .ref (q 28), .int 0])), ((q 4), .inr (3, [.ref (q 30), .ref (q 31), .ref (q 32), .int 0, .int 0, .int (-1), .int 0, .int 0, .int 0, .int 0, .int 0, .int 0])), ((q 5), .inr (9, [.ref (q 33), .ref (q 34), .ref (q 35), .int 0, .int 0])), ((q 8), .inr (7, [.ref (q 36), .ref (q 37), .ref (q 38), .ref (q 39), .int 0, .int 0])), ((q 9), .inr (6, [.int 0, .int 0, .int 0, .ref (q 40), .ref (q 41), .ref (q 42), .ref (q 43)])), ((q 11), .inr (0, [.ref (q 44), .int 0, .int 0])), ((r 1), .inl (kT, 240, .inl fT)), ((r 18), .inl (kU, 2, .inl (fun _ => 0))), ((r 24), .inl (kL, 5, .inl (fun _ => 0))), ((r 32), .inl (kN, 208, .inl (fun _ => 0)))] := hD
  refine W.widen (k := 335) (n := 33214) (Nat.le_of_ble_eq_true rfl) (Nat.le_of_ble_eq_true rfl) ?_
  obtain rfl : r_6 = (-1) := hw
  refine lv_icmp_eq (tgt := 1629) hx hb dL_law_1536 (by decide) (fun c_7 => ?_) (fun c_7 => absurd (by decide) c_7)
  exact lc_exit C0 hS (by decide) (by decide) ls (lv_sub hl [0, 4] rfl)
set_option maxHeartbeats 4000000 in
set_option maxRecDepth 100000 in
theorem lc_38 {p : Program} {l : Launch} {e : Env} {s : State} {m : MethodId} {below : List Frame} {meth : Method} {c : Code} {b : Nat} {xs : Nat → Int32} {H : Heap} {locs : List Loc} {ls : Array Slot} {dC : Nat → ClassId} {dI : Nat → Nat → Nat} {sk sv : Nat → Nat} {s2 tz s3 : Nat} (q r : Nat → Nat) (kB : ClassId) (kR : ClassId) (kT : ClassId) (kU : ClassId) (kL : ClassId) (kN : ClassId) (fB fT : Nat → Int32) (qo : Nat) (hlt : l.stackTraces = false) (C0 : lw_At p s m meth c b 6 xs) (hG : gxP s) (hE : exP sk sv s2 tz (fun q : Nat => s.heap.size ≤ q) s s.heap) (hT : tP s3 (fun q : Nat => s.heap.size ≤ q) s s.heap) (hK : va_K (dC, dI) vwCl [(kB, .int), (kR, .int), (kT, .byte), (kU, .int), (kL, .int), (kN, .int)] s) (hP : va_P (dC, dI) vwCl [((q 15), .inr (11, xF q 0 1)), ((q 0), .inr (8, [.ref (q 16), .int 0, .int 0, .int 0])), ((q 16), .inl (kB, 240, .inl fB)), ((q 1), .inr (5, [.int 0, .int 0, .int 0, .int 0, .ref (q 20), .ref (q 21), .ref (q 22), .ref (q 23)])), ((q 2), .inr (5, [.int 0, .int 0, .int 0, .int 0, .ref (q 24), .ref (q 25), .ref (q 26), .ref (q 27)])), ((q 24), .inl (kR, 2, .inl (fun _ => 0))), ((q 3), .inr (2, [.ref (q 0), .ref (q 28), .int 0])), ((q 4), .inr (3, [.ref (q 30), .ref (q 31), .ref (q 32), .int 0, .int 0, .int (-1), .int 0, .int 0, .int 0, .int 0, .int 0, .int 0])), ((q 5), .inr (9, [.ref (q 33), .ref (q 34), .ref (q 35), .int 0, .int 0])), ((q 8), .inr (7, [.ref (q 36), .ref (q 37), .ref (q 38), .ref (q 39), .int 0, .int 0])), ((q 9), .inr (6, [.int 0, .int 0, .int 0, .ref (q 40), .ref (q 41), .ref (q 42), .ref (q 43)])), ((q 11), .inr (0, [.ref (q 44), .int 0, .int 0])), ((r 100), .inr (12, mF r 0 0 0 0 0 0 0 0 0 0 0 0 0 (-1) 1)), ((r 1), .inl (kT, 240, .inl fT)), ((r 18), .inl (kU, 2, .inl (fun _ => 0))), ((r 24), .inl (kL, 5, .inl (fun _ => 0))), ((r 32), .inl (kN, 208, .inl (fun _ => 0)))] H) (hD : va_D (fun q : Nat => s.heap.size ≤ q) [((q 15), .inr (11, xF q 0 1)), ((q 0), .inr (8, [.ref (q 16), .int 0, .int 0, .int 0])), ((q 16), .inl (kB, 240, .inl fB)), ((q 1), .inr (5, [.int 0, .int 0, .int 0, .int 0, .ref (q 20), .ref (q 21), .ref (q 22), .ref (q 23)])), ((q 2), .inr (5, [.int 0, .int 0, .int 0, .int 0, .ref (q 24), .ref (q 25), .ref (q 26), .ref (q 27)])), ((q 24), .inl (kR, 2, .inl (fun _ => 0))), ((q 3), .inr (2, [.ref (q 0), .ref (q 28), .int 0])), ((q 4), .inr (3, [.ref (q 30), .ref (q 31), .ref (q 32), .int 0, .int 0, .int (-1), .int 0, .int 0, .int 0, .int 0, .int 0, .int 0])), ((q 5), .inr (9, [.ref (q 33), .ref (q 34), .ref (q 35), .int 0, .int 0])), ((q 8), .inr (7, [.ref (q 36), .ref (q 37), .ref (q 38), .ref (q 39), .int 0, .int 0])), ((q 9), .inr (6, [.int 0, .int 0, .int 0, .ref (q 40), .ref (q 41), .ref (q 42), .ref (q 43)])), ((q 11), .inr (0, [.ref (q 44), .int 0, .int 0])), ((r 100), .inr (12, mF r 0 0 0 0 0 0 0 0 0 0 0 0 0 (-1) 1)), ((r 1), .inl (kT, 240, .inl fT)), ((r 18), .inl (kU, 2, .inl (fun _ => 0))), ((r 24), .inl (kL, 5, .inl (fun _ => 0))), ((r 32), .inl (kN, 208, .inl (fun _ => 0)))]) (hS : va_S (fun q : Nat => s.heap.size ≤ q) s.heap H locs) (hl : lv_has ls 7 [(0, .ref b), (1, .ref (q 15)), (2, .ref (r 100)), (3, .ref qo), (4, .int 0)]) : W p l e room_1 s m #[Value.ref b] below meth c H locs 335 33214 (lw_Z below #[Value.ref b] s) (F0 m 1541 ls []) := by
  obtain ⟨hx, hb, hr, hml, hown0, hts, hX, hbl, hlocks, hgv⟩ := id C0
  have hown : s.vm.findClass RL = some m.cls := hown0
  have hA : ∀ q : Nat, s.heap.size ≤ q → (fun q : Nat => s.heap.size ≤ q) q := fun _ h => h
  have hbA : ¬ (fun q : Nat => s.heap.size ≤ q) b := Nat.not_le.mpr hbl
  have hiX11 : ∀ w ∈ u_ws RX11 TX11 17, w ∈ lw_tbl := in_X11
  have hiX12 : ∀ w ∈ u_ws RX12 TX12 54, w ∈ lw_tbl := in_X12
  refine lv_aload_n hx hb dL_law_1541 rfl (lv_at hl 1 rfl) ?_
  refine lv_aload_n hx hb dL_law_1542 rfl (lv_at hl 0 rfl) ?_
  refine lv_iload hx hb dL_law_1543 (lv_at hl 4 rfl) ?_
  refine lv_iconst (v := 1) hx hb dL_law_1545 (by decide) ?_
  refine lv_iadd hx hb dL_law_1546 ?_
  refine lv_topi (fun v_1 e_1 => ?_)
  obtain rfl : v_1 = 1 := by rw [e_1]; decide
  refine va_sld hx hb hX hbl hbA hS (i := 1) (vp_in_nI (n := 1) (by decide) (by decide)) dL_law_1547 ?_
  refine lv_topi (fun v_2 e_2 => ?_)
  obtain rfl : v_2 = xs 1 := by rw [e_2]; exact congrArg xs (by decide)
  refine lv_aload_n hx hb dL_law_1548 rfl (lv_at hl 0 rfl) ?_
  refine lv_iload hx hb dL_law_1549 (lv_at hl 4 rfl) ?_
  refine lv_iconst (v := 2) hx hb dL_law_1551 (by decide) ?_
  refine lv_iadd hx hb dL_law_1552 ?_
  refine lv_topi (fun v_3 e_3 => ?_)
  obtain rfl : v_3 = 2 := by rw [e_3]; decide
  refine va_sld hx hb hX hbl hbA hS (i := 2) (vp_in_nI (n := 2) (by decide) (by decide)) dL_law_1553 ?_
  refine lv_topi (fun v_4 e_4 => ?_)
  obtain rfl : v_4 = xs 2 := by rw [e_4]; exact congrArg xs (by decide)
  have hPc := hP.sub (ws' := [((q 15), .inr (11, xF q 0 1)), ((q 1), .inr (5, [.int 0, .int 0, .int 0, .int 0, .ref (q 20), .ref (q 21), .ref (q 22), .ref (q 23)]))]) [0, 3] rfl
  have hDc := hD.sub (ws' := [((q 15), .inr (11, xF q 0 1)), ((q 1), .inr (5, [.int 0, .int 0, .int 0, .int 0, .ref (q 20), .ref (q 21), .ref (q 22), .ref (q 23)]))]) [0, 3] (by decide) rfl
  have hKc := hK.sub (tys' := []) [] rfl
  have hFc := va_free (wc := [((q 15), .inr (11, xF q 0 1)), ((q 1), .inr (5, [.int 0, .int 0, .int 0, .int 0, .ref (q 20), .ref (q 21), .ref (q 22), .ref (q 23)]))]) hD hS hA [0, 3] rfl
  refine va_calli (va_runV (As := [.int (xs 1), .int (xs 2)]) (rest := []) ⟨hx, hb, hml, hown, hts⟩ (f_X11_around l dC dI H.size q ((xs 1)) ((xs 2))) (cwV 2 hts g_f_L_law_f_X11_around rfl rfl rfl (by decide +kernel) ⟨Nat.le_of_ble_eq_true rfl, Nat.le_of_ble_eq_true rfl⟩) ⟨cW_blind, va_recv hKc hPc (ci := 11) (q0 := 0) rfl rfl, fun U hU hW => ⟨rfl, cW_use hU hW hPc hKc hDc hG⟩⟩ rfl rfl hl.1 rfl (lv_room (Nat.le_of_ble_eq_true rfl)) dL_law_1554 ⟨Nat.le_of_ble_eq_true rfl, Nat.le_of_ble_eq_true rfl⟩) hS (fun q _ h => hFc q h) hFc (fun r_5 u t H1 locs ht hvm hw hB hz1 hk1 hS => ?_)
  obtain ⟨hP, hD⟩ := va_join (wr := [((q 0), .inr (8, [.ref (q 16), .int 0, .int 0, .int 0])), ((q 16), .inl (kB, 240, .inl fB)), ((q 2), .inr (5, [.int 0, .int 0, .int 0, .int 0, .ref (q 24), .ref (q 25), .ref (q 26), .ref (q 27)])), ((q 24), .inl (kR, 2, .inl (fun _ => 0))), ((q 3), .inr (2, [.ref (q 0), .ref (q 28), .int 0])), ((q 4), .inr (3, [.ref (q 30), .ref (q 31), .ref (q 32), .int 0, .int 0, .int (-1), .int 0, .int 0, .int 0, .int 0, .int 0, .int 0])), ((q 5), .inr (9, [.ref (q 33), .ref (q 34), .ref (q 35), .int 0, .int 0])), ((q 8), .inr (7, [.ref (q 36), .ref (q 37), .ref (q 38), .ref (q 39), .int 0, .int 0])), ((q 9), .inr (6, [.int 0, .int 0, .int 0, .ref (q 40), .ref (q 41), .ref (q 42), .ref (q 43)])), ((q 11), .inr (0, [.ref (q 44), .int 0, .int 0])), ((r 100), .inr (12, mF r 0 0 0 0 0 0 0 0 0 0 0 0 0 (-1) 1)), ((r 1), .inl (kT, 240, .inl fT)), ((r 18), .inl (kU, 2, .inl (fun _ => 0))), ((r 24), .inl (kL, 5, .inl (fun _ => 0))), ((r 32), .inl (kN, 208, .inl (fun _ => 0)))]) (w1 := []) hP hD [0, 3] [1, 2, 4, 5, 6, 7, 8, 9, 10, 11, 12, 13, 14, 15, 16] rfl rfl (by decide) (by decide) hk1 hFc (va_P_nil H1) va_D_nil
  generalize H1 = H at hP hS ⊢
  have hP : va_P (dC, dI) vwCl [((q 0), .inr (8, [.ref (q 16), .int 0, .int 0, .int 0])), ((q 16), .inl (kB, 240, .inl fB)), ((q 2), .inr (5, [.int 0, .int 0, .int 0, .int 0, .ref (q 24), .ref (q 25), .ref (q 26), .ref (q 27)])), ((q 24), .inl (kR, 2, .inl (fun _ => 0))), ((q 3), .inr (2, [.ref (q 0), .ref (q 28), .int 0])), ((q 4), .inr (3, [.ref (q 30), .ref (q 31), .ref (q 32), .int 0, .int 0, .int (-1), .int 0, .int 0, .int 0, .int 0, .int 0, .int 0])), ((q 5), .inr (9, [.ref (q 33), .ref (q 34), .ref (q 35), .int 0, .int 0])), ((q 8), .inr (7, [.ref (q 36), .ref (q 37), .ref (q 38), .ref (q 39), .int 0, .int 0])), ((q 9), .inr (6, [.int 0, .int 0, .int 0, .ref (q 40), .ref (q 41), .ref (q 42), .ref (q 43)])), ((q 11), .inr (0, [.ref (q 44), .int 0, .int 0])), ((r 100), .inr (12, mF r 0 0 0 0 0 0 0 0 0 0 0 0 0 (-1) 1)), ((r 1), .inl (kT, 240, .inl fT)), ((r 18), .inl (kU, 2, .inl (fun _ => 0))), ((r 24), .inl (kL, 5, .inl (fun _ => 0))), ((r 32), .inl (kN, 208, .inl (fun _ => 0)))] H := hP
  have hD : va_D (fun q : Nat => s.heap.size ≤ q) [((q 0), .inr (8, [.ref (q 16), .int 0, .int 0, .int 0])), ((q 16), .inl (kB, 240, .inl fB)), ((q 2), .inr (5, [.int 0, .int 0, .int 0, .int 0, .ref (q 24), .ref (q 25), .ref (q 26), .ref (q 27)])), ((q 24), .inl (kR, 2, .inl (fun _ => 0))), ((q 3), .inr (2, [.ref (q 0), .ref (q 28), .int 0])), ((q 4), .inr (3, [.ref (q 30), .ref (q 31), .ref (q 32), .int 0, .int 0, .int (-1), .int 0, .int 0, .int 0, .int 0, .int 0, .int 0])), ((q 5), .inr (9, [.ref (q 33), .ref (q 34), .ref (q 35), .int 0, .int 0])), ((q 8), .inr (7, [.ref (q 36), .ref (q 37), .ref (q 38), .ref (q 39), .int 0, .int 0])), ((q 9), .inr (6, [.int 0, .int 0, .int 0, .ref (q 40), .ref (q 41), .ref (q 42), .ref (q 43)])), ((q 11), .inr (0, [.ref (q 44), .int 0, .int 0])), ((r 100), .inr (12, mF r 0 0 0 0 0 0 0 0 0 0 0 0 0 (-1) 1)), ((r 1), .inl (kT, 240, .inl fT)), ((r 18), .inl (kU, 2, .inl (fun _ => 0))), ((r 24), .inl (kL, 5, .inl (fun _ => 0))), ((r 32), .inl (kN, 208, .inl (fun _ => 0)))] := hD
  refine W.widen (k := 335) (n := 33214) (Nat.le_of_ble_eq_true rfl) (Nat.le_of_ble_eq_true rfl) ?_
  obtain rfl : r_5 = (-1) := hw
  refine lv_aload_n hx hb dL_law_1557 rfl (lv_at hl 2 rfl) ?_
  refine lv_aload_n hx hb dL_law_1558 rfl (lv_at hl 0 rfl) ?_
  refine lv_iload hx hb dL_law_1559 (lv_at hl 4 rfl) ?_
  refine lv_iconst (v := 1) hx hb dL_law_1561 (by decide) ?_
  refine lv_iadd hx hb dL_law_1562 ?_
  refine lv_topi (fun v_6 e_6 => ?_)
  obtain rfl : v_6 = 1 := by rw [e_6]; decide
  refine va_sld hx hb hX hbl hbA hS (i := 1) (vp_in_nI (n := 1) (by decide) (by decide)) dL_law_1563 ?_
  refine lv_topi (fun v_7 e_7 => ?_)
  obtain rfl : v_7 = xs 1 := by rw [e_7]; exact congrArg xs (by decide)
  refine lv_aload_n hx hb dL_law_1564 rfl (lv_at hl 0 rfl) ?_
  refine lv_iload hx hb dL_law_1565 (lv_at hl 4 rfl) ?_
  refine lv_iconst (v := 2) hx hb dL_law_1567 (by decide) ?_
  refine lv_iadd hx hb dL_law_1568 ?_
  refine lv_topi (fun v_8 e_8 => ?_)
  obtain rfl : v_8 = 2 := by rw [e_8]; decide
  refine va_sld hx hb hX hbl hbA hS (i := 2) (vp_in_nI (n := 2) (by decide) (by decide)) dL_law_1569 ?_
  refine lv_topi (fun v_9 e_9 => ?_)
  obtain rfl : v_9 = xs 2 := by rw [e_9]; exact congrArg xs (by decide)
  have hPc := hP.sub (ws' := [((r 100), .inr (12, mF r 0 0 0 0 0 0 0 0 0 0 0 0 0 (-1) 1))]) [10] rfl
  have hDc := hD.sub (ws' := [((r 100), .inr (12, mF r 0 0 0 0 0 0 0 0 0 0 0 0 0 (-1) 1))]) [10] (by decide) rfl
  have hKc := hK.sub (tys' := []) [] rfl
  have hFc := va_free (wc := [((r 100), .inr (12, mF r 0 0 0 0 0 0 0 0 0 0 0 0 0 (-1) 1))]) hD hS hA [10] rfl
  refine va_calli (va_runV (As := [.int (xs 1), .int (xs 2)]) (rest := [.int (-1)]) ⟨hx, hb, hml, hown, hts⟩ (f_X12_around l dC dI H.size r ((xs 1)) ((xs 2))) (cwV 2 hts g_f_L_law_f_X12_around rfl rfl rfl (by decide +kernel) ⟨Nat.le_of_ble_eq_true rfl, Nat.le_of_ble_eq_true rfl⟩) ⟨cW_blind, va_recv hKc hPc (ci := 12) (q0 := 0) rfl rfl, fun U hU hW => ⟨rfl, cW_use hU hW hPc hKc hDc hG⟩⟩ rfl rfl hl.1 rfl (lv_room (Nat.le_of_ble_eq_true rfl)) dL_law_1570 ⟨Nat.le_of_ble_eq_true rfl, Nat.le_of_ble_eq_true rfl⟩) hS (fun q _ h => hFc q h) hFc (fun r_10 u t H1 locs ht hvm hw hB hz1 hk1 hS => ?_)
  obtain ⟨hP, hD⟩ := va_join (wr := [((q 0), .inr (8, [.ref (q 16), .int 0, .int 0, .int 0])), ((q 16), .inl (kB, 240, .inl fB)), ((q 2), .inr (5, [.int 0, .int 0, .int 0, .int 0, .ref (q 24), .ref (q 25), .ref (q 26), .ref (q 27)])), ((q 24), .inl (kR, 2, .inl (fun _ => 0))), ((q 3), .inr (2, [.ref (q 0), .ref (q 28), .int 0])), ((q 4), .inr (3, [.ref (q 30), .ref (q 31), .ref (q 32), .int 0, .int 0, .int (-1), .int 0, .int 0, .int 0, .int 0, .int 0, .int 0])), ((q 5), .inr (9, [.ref (q 33), .ref (q 34), .ref (q 35), .int 0, .int 0])), ((q 8), .inr (7, [.ref (q 36), .ref (q 37), .ref (q 38), .ref (q 39), .int 0, .int 0])), ((q 9), .inr (6, [.int 0, .int 0, .int 0, .ref (q 40), .ref (q 41), .ref (q 42), .ref (q 43)])), ((q 11), .inr (0, [.ref (q 44), .int 0, .int 0])), ((r 1), .inl (kT, 240, .inl fT)), ((r 18), .inl (kU, 2, .inl (fun _ => 0))), ((r 24), .inl (kL, 5, .inl (fun _ => 0))), ((r 32), .inl (kN, 208, .inl (fun _ => 0)))]) (w1 := []) hP hD [10] [0, 1, 2, 3, 4, 5, 6, 7, 8, 9, 11, 12, 13, 14] rfl rfl (by decide) (by decide) hk1 hFc (va_P_nil H1) va_D_nil
  generalize H1 = H at hP hS ⊢
  have hP : va_P (dC, dI) vwCl [((q 0), .inr (8, [.ref (q 16), .int 0, .int 0, .int 0])), ((q 16), .inl (kB, 240, .inl fB)), ((q 2), .inr (5, [.int 0, .int 0, .int 0, .int 0, .ref (q 24), .ref (q 25), .ref (q 26), .ref (q 27)])), ((q 24), .inl (kR, 2, .inl (fun _ => 0))), ((q 3), .inr (2, [.ref (q 0), .ref (q 28), .int 0])), ((q 4), .inr (3, [.ref (q 30), .ref (q 31), .ref (q 32), .int 0, .int 0, .int (-1), .int 0, .int 0, .int 0, .int 0, .int 0, .int 0])), ((q 5), .inr (9, [.ref (q 33), .ref (q 34), .ref (q 35), .int 0, .int 0])), ((q 8), .inr (7, [.ref (q 36), .ref (q 37), .ref (q 38), .ref (q 39), .int 0, .int 0])), ((q 9), .inr (6, [.int 0, .int 0, .int 0, .ref (q 40), .ref (q 41), .ref (q 42), .ref (q 43)])), ((q 11), .inr (0, [.ref (q 44), .int 0, .int 0])), ((r 1), .inl (kT, 240, .inl fT)), ((r 18), .inl (kU, 2, .inl (fun _ => 0))), ((r 24), .inl (kL, 5, .inl (fun _ => 0))), ((r 32), .inl (kN, 208, .inl (fun _ => 0)))] H := hP
  have hD : va_D (fun q : Nat => s.heap.size ≤ q) [((q 0), .inr (8, [.ref (q 16), .int 0, .int 0, .int 0])), ((q 16), .inl (kB, 240, .inl fB)), ((q 2), .inr (5, [.int 0, .int 0, .int 0, .int 0, .ref (q 24), .ref (q 25), .ref (q 26), .ref (q 27)])), ((q 24), .inl (kR, 2, .inl (fun _ => 0))), ((q 3), .inr (2, [.ref (q 0), .ref (q 28), .int 0])), ((q 4), .inr (3, [.ref (q 30), .ref (q 31), .ref (q 32), .int 0, .int 0, .int (-1), .int 0, .int 0, .int 0, .int 0, .int 0, .int 0])), ((q 5), .inr (9, [.ref (q 33), .ref (q 34), .ref (q 35), .int 0, .int 0])), ((q 8), .inr (7, [.ref (q 36), .ref (q 37), .ref (q 38), .ref (q 39), .int 0, .int 0])), ((q 9), .inr (6, [.int 0, .int 0, .int 0, .ref (q 40), .ref (q 41), .ref (q 42), .ref (q 43)])), ((q 11), .inr (0, [.ref (q 44), .int 0, .int 0])), ((r 1), .inl (kT, 240, .inl fT)), ((r 18), .inl (kU, 2, .inl (fun _ => 0))), ((r 24), .inl (kL, 5, .inl (fun _ => 0))), ((r 32), .inl (kN, 208, .inl (fun _ => 0)))] := hD
  refine W.widen (k := 335) (n := 33214) (Nat.le_of_ble_eq_true rfl) (Nat.le_of_ble_eq_true rfl) ?_
  obtain rfl : r_10 = (-1) := hw
  refine lv_icmp_eq (tgt := 1629) hx hb dL_law_1573 (by decide) (fun c_11 => ?_) (fun c_11 => absurd (by decide) c_11)
  exact lc_exit C0 hS (by decide) (by decide) ls (lv_sub hl [0, 4] rfl)
set_option maxHeartbeats 4000000 in
set_option maxRecDepth 100000 in
theorem lc_39 {p : Program} {l : Launch} {e : Env} {s : State} {m : MethodId} {below : List Frame} {meth : Method} {c : Code} {b : Nat} {xs : Nat → Int32} {H : Heap} {locs : List Loc} {ls : Array Slot} {dC : Nat → ClassId} {dI : Nat → Nat → Nat} {sk sv : Nat → Nat} {s2 tz s3 : Nat} (q r : Nat → Nat) (kB : ClassId) (kR : ClassId) (kT : ClassId) (kU : ClassId) (kL : ClassId) (kN : ClassId) (fB fT : Nat → Int32) (qo : Nat) (hlt : l.stackTraces = false) (C0 : lw_At p s m meth c b 6 xs) (hG : gxP s) (hE : exP sk sv s2 tz (fun q : Nat => s.heap.size ≤ q) s s.heap) (hT : tP s3 (fun q : Nat => s.heap.size ≤ q) s s.heap) (hK : va_K (dC, dI) vwCl [(kB, .int), (kR, .int), (kT, .byte), (kU, .int), (kL, .int), (kN, .int)] s) (hP : va_P (dC, dI) vwCl [((q 15), .inr (11, xF q 0 1)), ((q 0), .inr (8, [.ref (q 16), .int 0, .int 0, .int 0])), ((q 16), .inl (kB, 240, .inl fB)), ((q 1), .inr (5, [.int 0, .int 0, .int 0, .int 0, .ref (q 20), .ref (q 21), .ref (q 22), .ref (q 23)])), ((q 2), .inr (5, [.int 0, .int 0, .int 0, .int 0, .ref (q 24), .ref (q 25), .ref (q 26), .ref (q 27)])), ((q 24), .inl (kR, 2, .inl (fun _ => 0))), ((q 3), .inr (2, [.ref (q 0), .ref (q 28), .int 0])), ((q 4), .inr (3, [.ref (q 30), .ref (q 31), .ref (q 32), .int 0, .int 0, .int (-1), .int 0, .int 0, .int 0, .int 0, .int 0, .int 0])), ((q 5), .inr (9, [.ref (q 33), .ref (q 34), .ref (q 35), .int 0, .int 0])), ((q 8), .inr (7, [.ref (q 36), .ref (q 37), .ref (q 38), .ref (q 39), .int 0, .int 0])), ((q 9), .inr (6, [.int 0, .int 0, .int 0, .ref (q 40), .ref (q 41), .ref (q 42), .ref (q 43)])), ((q 11), .inr (0, [.ref (q 44), .int 0, .int 0])), ((r 100), .inr (12, mF r 0 0 0 0 0 0 0 0 0 0 0 0 0 (-1) 1)), ((r 1), .inl (kT, 240, .inl fT)), ((r 18), .inl (kU, 2, .inl (fun _ => 0))), ((r 24), .inl (kL, 5, .inl (fun _ => 0))), ((r 32), .inl (kN, 208, .inl (fun _ => 0)))] H) (hD : va_D (fun q : Nat => s.heap.size ≤ q) [((q 15), .inr (11, xF q 0 1)), ((q 0), .inr (8, [.ref (q 16), .int 0, .int 0, .int 0])), ((q 16), .inl (kB, 240, .inl fB)), ((q 1), .inr (5, [.int 0, .int 0, .int 0, .int 0, .ref (q 20), .ref (q 21), .ref (q 22), .ref (q 23)])), ((q 2), .inr (5, [.int 0, .int 0, .int 0, .int 0, .ref (q 24), .ref (q 25), .ref (q 26), .ref (q 27)])), ((q 24), .inl (kR, 2, .inl (fun _ => 0))), ((q 3), .inr (2, [.ref (q 0), .ref (q 28), .int 0])), ((q 4), .inr (3, [.ref (q 30), .ref (q 31), .ref (q 32), .int 0, .int 0, .int (-1), .int 0, .int 0, .int 0, .int 0, .int 0, .int 0])), ((q 5), .inr (9, [.ref (q 33), .ref (q 34), .ref (q 35), .int 0, .int 0])), ((q 8), .inr (7, [.ref (q 36), .ref (q 37), .ref (q 38), .ref (q 39), .int 0, .int 0])), ((q 9), .inr (6, [.int 0, .int 0, .int 0, .ref (q 40), .ref (q 41), .ref (q 42), .ref (q 43)])), ((q 11), .inr (0, [.ref (q 44), .int 0, .int 0])), ((r 100), .inr (12, mF r 0 0 0 0 0 0 0 0 0 0 0 0 0 (-1) 1)), ((r 1), .inl (kT, 240, .inl fT)), ((r 18), .inl (kU, 2, .inl (fun _ => 0))), ((r 24), .inl (kL, 5, .inl (fun _ => 0))), ((r 32), .inl (kN, 208, .inl (fun _ => 0)))]) (hS : va_S (fun q : Nat => s.heap.size ≤ q) s.heap H locs) (hl : lv_has ls 7 [(0, .ref b), (1, .ref (q 15)), (2, .ref (r 100)), (3, .ref qo), (4, .int 0)]) : W p l e room_1 s m #[Value.ref b] below meth c H locs 335 33214 (lw_Z below #[Value.ref b] s) (F0 m 1578 ls []) := by
  obtain ⟨hx, hb, hr, hml, hown0, hts, hX, hbl, hlocks, hgv⟩ := id C0
  have hown : s.vm.findClass RL = some m.cls := hown0
  have hA : ∀ q : Nat, s.heap.size ≤ q → (fun q : Nat => s.heap.size ≤ q) q := fun _ h => h
  have hbA : ¬ (fun q : Nat => s.heap.size ≤ q) b := Nat.not_le.mpr hbl
  have hiX11 : ∀ w ∈ u_ws RX11 TX11 17, w ∈ lw_tbl := in_X11
  have hiX12 : ∀ w ∈ u_ws RX12 TX12 54, w ∈ lw_tbl := in_X12
  refine lv_aload_n hx hb dL_law_1578 rfl (lv_at hl 1 rfl) ?_
  have hPc := hP.sub (ws' := [((q 15), .inr (11, xF q 0 1)), ((q 1), .inr (5, [.int 0, .int 0, .int 0, .int 0, .ref (q 20), .ref (q 21), .ref (q 22), .ref (q 23)]))]) [0, 3] rfl
  have hDc := hD.sub (ws' := [((q 15), .inr (11, xF q 0 1)), ((q 1), .inr (5, [.int 0, .int 0, .int 0, .int 0, .ref (q 20), .ref (q 21), .ref (q 22), .ref (q 23)]))]) [0, 3] (by decide) rfl
  have hKc := hK.sub (tys' := []) [] rfl
  have hFc := va_free (wc := [((q 15), .inr (11, xF q 0 1)), ((q 1), .inr (5, [.int 0, .int 0, .int 0, .int 0, .ref (q 20), .ref (q 21), .ref (q 22), .ref (q 23)]))]) hD hS hA [0, 3] rfl
  refine va_calli (va_runV (As := []) (rest := []) ⟨hx, hb, hml, hown, hts⟩ (f_X11_image l dC dI H.size q ) (cwV 0 hts g_f_L_law_f_X11_image rfl rfl rfl (by decide +kernel) ⟨Nat.le_of_ble_eq_true rfl, Nat.le_of_ble_eq_true rfl⟩) ⟨cW_blind, va_recv hKc hPc (ci := 11) (q0 := 0) rfl rfl, fun U hU hW => ⟨rfl, cW_use hU hW hPc hKc hDc hG⟩⟩ rfl rfl hl.1 rfl (lv_room (Nat.le_of_ble_eq_true rfl)) dL_law_1579 ⟨Nat.le_of_ble_eq_true rfl, Nat.le_of_ble_eq_true rfl⟩) hS (fun q _ h => hFc q h) hFc (fun r_1 u t H1 locs ht hvm hw hB hz1 hk1 hS => ?_)
  obtain ⟨hP, hD⟩ := va_join (wr := [((q 0), .inr (8, [.ref (q 16), .int 0, .int 0, .int 0])), ((q 16), .inl (kB, 240, .inl fB)), ((q 2), .inr (5, [.int 0, .int 0, .int 0, .int 0, .ref (q 24), .ref (q 25), .ref (q 26), .ref (q 27)])), ((q 24), .inl (kR, 2, .inl (fun _ => 0))), ((q 3), .inr (2, [.ref (q 0), .ref (q 28), .int 0])), ((q 4), .inr (3, [.ref (q 30), .ref (q 31), .ref (q 32), .int 0, .int 0, .int (-1), .int 0, .int 0, .int 0, .int 0, .int 0, .int 0])), ((q 5), .inr (9, [.ref (q 33), .ref (q 34), .ref (q 35), .int 0, .int 0])), ((q 8), .inr (7, [.ref (q 36), .ref (q 37), .ref (q 38), .ref (q 39), .int 0, .int 0])), ((q 9), .inr (6, [.int 0, .int 0, .int 0, .ref (q 40), .ref (q 41), .ref (q 42), .ref (q 43)])), ((q 11), .inr (0, [.ref (q 44), .int 0, .int 0])), ((r 100), .inr (12, mF r 0 0 0 0 0 0 0 0 0 0 0 0 0 (-1) 1)), ((r 1), .inl (kT, 240, .inl fT)), ((r 18), .inl (kU, 2, .inl (fun _ => 0))), ((r 24), .inl (kL, 5, .inl (fun _ => 0))), ((r 32), .inl (kN, 208, .inl (fun _ => 0)))]) (w1 := []) hP hD [0, 3] [1, 2, 4, 5, 6, 7, 8, 9, 10, 11, 12, 13, 14, 15, 16] rfl rfl (by decide) (by decide) hk1 hFc (va_P_nil H1) va_D_nil
  generalize H1 = H at hP hS ⊢
  have hP : va_P (dC, dI) vwCl [((q 0), .inr (8, [.ref (q 16), .int 0, .int 0, .int 0])), ((q 16), .inl (kB, 240, .inl fB)), ((q 2), .inr (5, [.int 0, .int 0, .int 0, .int 0, .ref (q 24), .ref (q 25), .ref (q 26), .ref (q 27)])), ((q 24), .inl (kR, 2, .inl (fun _ => 0))), ((q 3), .inr (2, [.ref (q 0), .ref (q 28), .int 0])), ((q 4), .inr (3, [.ref (q 30), .ref (q 31), .ref (q 32), .int 0, .int 0, .int (-1), .int 0, .int 0, .int 0, .int 0, .int 0, .int 0])), ((q 5), .inr (9, [.ref (q 33), .ref (q 34), .ref (q 35), .int 0, .int 0])), ((q 8), .inr (7, [.ref (q 36), .ref (q 37), .ref (q 38), .ref (q 39), .int 0, .int 0])), ((q 9), .inr (6, [.int 0, .int 0, .int 0, .ref (q 40), .ref (q 41), .ref (q 42), .ref (q 43)])), ((q 11), .inr (0, [.ref (q 44), .int 0, .int 0])), ((r 100), .inr (12, mF r 0 0 0 0 0 0 0 0 0 0 0 0 0 (-1) 1)), ((r 1), .inl (kT, 240, .inl fT)), ((r 18), .inl (kU, 2, .inl (fun _ => 0))), ((r 24), .inl (kL, 5, .inl (fun _ => 0))), ((r 32), .inl (kN, 208, .inl (fun _ => 0)))] H := hP
  have hD : va_D (fun q : Nat => s.heap.size ≤ q) [((q 0), .inr (8, [.ref (q 16), .int 0, .int 0, .int 0])), ((q 16), .inl (kB, 240, .inl fB)), ((q 2), .inr (5, [.int 0, .int 0, .int 0, .int 0, .ref (q 24), .ref (q 25), .ref (q 26), .ref (q 27)])), ((q 24), .inl (kR, 2, .inl (fun _ => 0))), ((q 3), .inr (2, [.ref (q 0), .ref (q 28), .int 0])), ((q 4), .inr (3, [.ref (q 30), .ref (q 31), .ref (q 32), .int 0, .int 0, .int (-1), .int 0, .int 0, .int 0, .int 0, .int 0, .int 0])), ((q 5), .inr (9, [.ref (q 33), .ref (q 34), .ref (q 35), .int 0, .int 0])), ((q 8), .inr (7, [.ref (q 36), .ref (q 37), .ref (q 38), .ref (q 39), .int 0, .int 0])), ((q 9), .inr (6, [.int 0, .int 0, .int 0, .ref (q 40), .ref (q 41), .ref (q 42), .ref (q 43)])), ((q 11), .inr (0, [.ref (q 44), .int 0, .int 0])), ((r 100), .inr (12, mF r 0 0 0 0 0 0 0 0 0 0 0 0 0 (-1) 1)), ((r 1), .inl (kT, 240, .inl fT)), ((r 18), .inl (kU, 2, .inl (fun _ => 0))), ((r 24), .inl (kL, 5, .inl (fun _ => 0))), ((r 32), .inl (kN, 208, .inl (fun _ => 0)))] := hD
  refine W.widen (k := 335) (n := 33214) (Nat.le_of_ble_eq_true rfl) (Nat.le_of_ble_eq_true rfl) ?_
  obtain rfl : r_1 = (-1) := hw
  refine lv_aload_n hx hb dL_law_1582 rfl (lv_at hl 2 rfl) ?_
  have hPc := hP.sub (ws' := [((r 100), .inr (12, mF r 0 0 0 0 0 0 0 0 0 0 0 0 0 (-1) 1))]) [10] rfl
  have hDc := hD.sub (ws' := [((r 100), .inr (12, mF r 0 0 0 0 0 0 0 0 0 0 0 0 0 (-1) 1))]) [10] (by decide) rfl
  have hKc := hK.sub (tys' := []) [] rfl
  have hFc := va_free (wc := [((r 100), .inr (12, mF r 0 0 0 0 0 0 0 0 0 0 0 0 0 (-1) 1))]) hD hS hA [10] rfl
  refine va_calli (va_runV (As := []) (rest := [.int (-1)]) ⟨hx, hb, hml, hown, hts⟩ (f_X12_image l dC dI H.size r ) (cwV 0 hts g_f_L_law_f_X12_image rfl rfl rfl (by decide +kernel) ⟨Nat.le_of_ble_eq_true rfl, Nat.le_of_ble_eq_true rfl⟩) ⟨cW_blind, va_recv hKc hPc (ci := 12) (q0 := 0) rfl rfl, fun U hU hW => ⟨rfl, cW_use hU hW hPc hKc hDc hG⟩⟩ rfl rfl hl.1 rfl (lv_room (Nat.le_of_ble_eq_true rfl)) dL_law_1583 ⟨Nat.le_of_ble_eq_true rfl, Nat.le_of_ble_eq_true rfl⟩) hS (fun q _ h => hFc q h) hFc (fun r_2 u t H1 locs ht hvm hw hB hz1 hk1 hS => ?_)
  obtain ⟨hP, hD⟩ := va_join (wr := [((q 0), .inr (8, [.ref (q 16), .int 0, .int 0, .int 0])), ((q 16), .inl (kB, 240, .inl fB)), ((q 2), .inr (5, [.int 0, .int 0, .int 0, .int 0, .ref (q 24), .ref (q 25), .ref (q 26), .ref (q 27)])), ((q 24), .inl (kR, 2, .inl (fun _ => 0))), ((q 3), .inr (2, [.ref (q 0), .ref (q 28), .int 0])), ((q 4), .inr (3, [.ref (q 30), .ref (q 31), .ref (q 32), .int 0, .int 0, .int (-1), .int 0, .int 0, .int 0, .int 0, .int 0, .int 0])), ((q 5), .inr (9, [.ref (q 33), .ref (q 34), .ref (q 35), .int 0, .int 0])), ((q 8), .inr (7, [.ref (q 36), .ref (q 37), .ref (q 38), .ref (q 39), .int 0, .int 0])), ((q 9), .inr (6, [.int 0, .int 0, .int 0, .ref (q 40), .ref (q 41), .ref (q 42), .ref (q 43)])), ((q 11), .inr (0, [.ref (q 44), .int 0, .int 0])), ((r 1), .inl (kT, 240, .inl fT)), ((r 18), .inl (kU, 2, .inl (fun _ => 0))), ((r 24), .inl (kL, 5, .inl (fun _ => 0))), ((r 32), .inl (kN, 208, .inl (fun _ => 0)))]) (w1 := []) hP hD [10] [0, 1, 2, 3, 4, 5, 6, 7, 8, 9, 11, 12, 13, 14] rfl rfl (by decide) (by decide) hk1 hFc (va_P_nil H1) va_D_nil
  generalize H1 = H at hP hS ⊢
  have hP : va_P (dC, dI) vwCl [((q 0), .inr (8, [.ref (q 16), .int 0, .int 0, .int 0])), ((q 16), .inl (kB, 240, .inl fB)), ((q 2), .inr (5, [.int 0, .int 0, .int 0, .int 0, .ref (q 24), .ref (q 25), .ref (q 26), .ref (q 27)])), ((q 24), .inl (kR, 2, .inl (fun _ => 0))), ((q 3), .inr (2, [.ref (q 0), .ref (q 28), .int 0])), ((q 4), .inr (3, [.ref (q 30), .ref (q 31), .ref (q 32), .int 0, .int 0, .int (-1), .int 0, .int 0, .int 0, .int 0, .int 0, .int 0])), ((q 5), .inr (9, [.ref (q 33), .ref (q 34), .ref (q 35), .int 0, .int 0])), ((q 8), .inr (7, [.ref (q 36), .ref (q 37), .ref (q 38), .ref (q 39), .int 0, .int 0])), ((q 9), .inr (6, [.int 0, .int 0, .int 0, .ref (q 40), .ref (q 41), .ref (q 42), .ref (q 43)])), ((q 11), .inr (0, [.ref (q 44), .int 0, .int 0])), ((r 1), .inl (kT, 240, .inl fT)), ((r 18), .inl (kU, 2, .inl (fun _ => 0))), ((r 24), .inl (kL, 5, .inl (fun _ => 0))), ((r 32), .inl (kN, 208, .inl (fun _ => 0)))] H := hP
  have hD : va_D (fun q : Nat => s.heap.size ≤ q) [((q 0), .inr (8, [.ref (q 16), .int 0, .int 0, .int 0])), ((q 16), .inl (kB, 240, .inl fB)), ((q 2), .inr (5, [.int 0, .int 0, .int 0, .int 0, .ref (q 24), .ref (q 25), .ref (q 26), .ref (q 27)])), ((q 24), .inl (kR, 2, .inl (fun _ => 0))), ((q 3), .inr (2, [.ref (q 0), .ref (q 28), .int 0])), ((q 4), .inr (3, [.ref (q 30), .ref (q 31), .ref (q 32), .int 0, .int 0, .int (-1), .int 0, .int 0, .int 0, .int 0, .int 0, .int 0])), ((q 5), .inr (9, [.ref (q 33), .ref (q 34), .ref (q 35), .int 0, .int 0])), ((q 8), .inr (7, [.ref (q 36), .ref (q 37), .ref (q 38), .ref (q 39), .int 0, .int 0])), ((q 9), .inr (6, [.int 0, .int 0, .int 0, .ref (q 40), .ref (q 41), .ref (q 42), .ref (q 43)])), ((q 11), .inr (0, [.ref (q 44), .int 0, .int 0])), ((r 1), .inl (kT, 240, .inl fT)), ((r 18), .inl (kU, 2, .inl (fun _ => 0))), ((r 24), .inl (kL, 5, .inl (fun _ => 0))), ((r 32), .inl (kN, 208, .inl (fun _ => 0)))] := hD
  refine W.widen (k := 335) (n := 33214) (Nat.le_of_ble_eq_true rfl) (Nat.le_of_ble_eq_true rfl) ?_
  obtain rfl : r_2 = (-1) := hw
  refine lv_icmp_eq (tgt := 1629) hx hb dL_law_1586 (by decide) (fun c_3 => ?_) (fun c_3 => absurd (by decide) c_3)
  exact lc_exit C0 hS (by decide) (by decide) ls (lv_sub hl [0, 4] rfl)
set_option maxHeartbeats 4000000 in
set_option maxRecDepth 100000 in
theorem lc_40 {p : Program} {l : Launch} {e : Env} {s : State} {m : MethodId} {below : List Frame} {meth : Method} {c : Code} {b : Nat} {xs : Nat → Int32} {H : Heap} {locs : List Loc} {ls : Array Slot} {dC : Nat → ClassId} {dI : Nat → Nat → Nat} {sk sv : Nat → Nat} {s2 tz s3 : Nat} (q r : Nat → Nat) (kB : ClassId) (kR : ClassId) (kT : ClassId) (kU : ClassId) (kL : ClassId) (kN : ClassId) (fB fT : Nat → Int32) (qo : Nat) (hlt : l.stackTraces = false) (C0 : lw_At p s m meth c b 6 xs) (hG : gxP s) (hE : exP sk sv s2 tz (fun q : Nat => s.heap.size ≤ q) s s.heap) (hT : tP s3 (fun q : Nat => s.heap.size ≤ q) s s.heap) (hK : va_K (dC, dI) vwCl [(kB, .int), (kR, .int), (kT, .byte), (kU, .int), (kL, .int), (kN, .int)] s) (hP : va_P (dC, dI) vwCl [((q 15), .inr (11, xF q 0 1)), ((q 0), .inr (8, [.ref (q 16), .int 0, .int 0, .int 0])), ((q 16), .inl (kB, 240, .inl fB)), ((q 1), .inr (5, [.int 0, .int 0, .int 0, .int 0, .ref (q 20), .ref (q 21), .ref (q 22), .ref (q 23)])), ((q 2), .inr (5, [.int 0, .int 0, .int 0, .int 0, .ref (q 24), .ref (q 25), .ref (q 26), .ref (q 27)])), ((q 24), .inl (kR, 2, .inl (fun _ => 0))), ((q 3), .inr (2, [.ref (q 0), .ref (q 28), .int 0])), ((q 4), .inr (3, [.ref (q 30), .ref (q 31), .ref (q 32), .int 0, .int 0, .int (-1), .int 0, .int 0, .int 0, .int 0, .int 0, .int 0])), ((q 5), .inr (9, [.ref (q 33), .ref (q 34), .ref (q 35), .int 0, .int 0])), ((q 8), .inr (7, [.ref (q 36), .ref (q 37), .ref (q 38), .ref (q 39), .int 0, .int 0])), ((q 9), .inr (6, [.int 0, .int 0, .int 0, .ref (q 40), .ref (q 41), .ref (q 42), .ref (q 43)])), ((q 11), .inr (0, [.ref (q 44), .int 0, .int 0])), ((r 100), .inr (12, mF r 0 0 0 0 0 0 0 0 0 0 0 0 0 (-1) 1)), ((r 1), .inl (kT, 240, .inl fT)), ((r 18), .inl (kU, 2, .inl (fun _ => 0))), ((r 24), .inl (kL, 5, .inl (fun _ => 0))), ((r 32), .inl (kN, 208, .inl (fun _ => 0)))] H) (hD : va_D (fun q : Nat => s.heap.size ≤ q) [((q 15), .inr (11, xF q 0 1)), ((q 0), .inr (8, [.ref (q 16), .int 0, .int 0, .int 0])), ((q 16), .inl (kB, 240, .inl fB)), ((q 1), .inr (5, [.int 0, .int 0, .int 0, .int 0, .ref (q 20), .ref (q 21), .ref (q 22), .ref (q 23)])), ((q 2), .inr (5, [.int 0, .int 0, .int 0, .int 0, .ref (q 24), .ref (q 25), .ref (q 26), .ref (q 27)])), ((q 24), .inl (kR, 2, .inl (fun _ => 0))), ((q 3), .inr (2, [.ref (q 0), .ref (q 28), .int 0])), ((q 4), .inr (3, [.ref (q 30), .ref (q 31), .ref (q 32), .int 0, .int 0, .int (-1), .int 0, .int 0, .int 0, .int 0, .int 0, .int 0])), ((q 5), .inr (9, [.ref (q 33), .ref (q 34), .ref (q 35), .int 0, .int 0])), ((q 8), .inr (7, [.ref (q 36), .ref (q 37), .ref (q 38), .ref (q 39), .int 0, .int 0])), ((q 9), .inr (6, [.int 0, .int 0, .int 0, .ref (q 40), .ref (q 41), .ref (q 42), .ref (q 43)])), ((q 11), .inr (0, [.ref (q 44), .int 0, .int 0])), ((r 100), .inr (12, mF r 0 0 0 0 0 0 0 0 0 0 0 0 0 (-1) 1)), ((r 1), .inl (kT, 240, .inl fT)), ((r 18), .inl (kU, 2, .inl (fun _ => 0))), ((r 24), .inl (kL, 5, .inl (fun _ => 0))), ((r 32), .inl (kN, 208, .inl (fun _ => 0)))]) (hS : va_S (fun q : Nat => s.heap.size ≤ q) s.heap H locs) (hl : lv_has ls 7 [(0, .ref b), (1, .ref (q 15)), (2, .ref (r 100)), (3, .ref qo), (4, .int 0)]) : W p l e room_1 s m #[Value.ref b] below meth c H locs 335 33214 (lw_Z below #[Value.ref b] s) (F0 m 1591 ls []) := by
  obtain ⟨hx, hb, hr, hml, hown0, hts, hX, hbl, hlocks, hgv⟩ := id C0
  have hown : s.vm.findClass RL = some m.cls := hown0
  have hA : ∀ q : Nat, s.heap.size ≤ q → (fun q : Nat => s.heap.size ≤ q) q := fun _ h => h
  have hbA : ¬ (fun q : Nat => s.heap.size ≤ q) b := Nat.not_le.mpr hbl
  have hiX11 : ∀ w ∈ u_ws RX11 TX11 17, w ∈ lw_tbl := in_X11
  have hiX12 : ∀ w ∈ u_ws RX12 TX12 54, w ∈ lw_tbl := in_X12
  refine lv_aload_n hx hb dL_law_1591 rfl (lv_at hl 1 rfl) ?_
  have hPc := hP.sub (ws' := [((q 15), .inr (11, xF q 0 1))]) [0] rfl
  have hDc := hD.sub (ws' := [((q 15), .inr (11, xF q 0 1))]) [0] (by decide) rfl
  have hKc := hK.sub (tys' := []) [] rfl
  have hFc := va_free (wc := [((q 15), .inr (11, xF q 0 1))]) hD hS hA [0] rfl
  refine va_calli (va_runV (As := []) (rest := []) ⟨hx, hb, hml, hown, hts⟩ (f_X11_back l dC dI H.size q ) (cwV 0 hts g_f_L_law_f_X11_back rfl rfl rfl (by decide +kernel) ⟨Nat.le_of_ble_eq_true rfl, Nat.le_of_ble_eq_true rfl⟩) ⟨cW_blind, va_recv hKc hPc (ci := 11) (q0 := 0) rfl rfl, fun U hU hW => ⟨rfl, cW_use hU hW hPc hKc hDc hG⟩⟩ rfl rfl hl.1 rfl (lv_room (Nat.le_of_ble_eq_true rfl)) dL_law_1592 ⟨Nat.le_of_ble_eq_true rfl, Nat.le_of_ble_eq_true rfl⟩) hS (fun q _ h => hFc q h) hFc (fun r_1 u t H1 locs ht hvm hw hB hz1 hk1 hS => ?_)
  obtain ⟨hP, hD⟩ := va_join (wr := [((q 0), .inr (8, [.ref (q 16), .int 0, .int 0, .int 0])), ((q 16), .inl (kB, 240, .inl fB)), ((q 1), .inr (5, [.int 0, .int 0, .int 0, .int 0, .ref (q 20), .ref (q 21), .ref (q 22), .ref (q 23)])), ((q 2), .inr (5, [.int 0, .int 0, .int 0, .int 0, .ref (q 24), .ref (q 25), .ref (q 26), .ref (q 27)])), ((q 24), .inl (kR, 2, .inl (fun _ => 0))), ((q 3), .inr (2, [.ref (q 0), .ref (q 28), .int 0])), ((q 4), .inr (3, [.ref (q 30), .ref (q 31), .ref (q 32), .int 0, .int 0, .int (-1), .int 0, .int 0, .int 0, .int 0, .int 0, .int 0])), ((q 5), .inr (9, [.ref (q 33), .ref (q 34), .ref (q 35), .int 0, .int 0])), ((q 8), .inr (7, [.ref (q 36), .ref (q 37), .ref (q 38), .ref (q 39), .int 0, .int 0])), ((q 9), .inr (6, [.int 0, .int 0, .int 0, .ref (q 40), .ref (q 41), .ref (q 42), .ref (q 43)])), ((q 11), .inr (0, [.ref (q 44), .int 0, .int 0])), ((r 100), .inr (12, mF r 0 0 0 0 0 0 0 0 0 0 0 0 0 (-1) 1)), ((r 1), .inl (kT, 240, .inl fT)), ((r 18), .inl (kU, 2, .inl (fun _ => 0))), ((r 24), .inl (kL, 5, .inl (fun _ => 0))), ((r 32), .inl (kN, 208, .inl (fun _ => 0)))]) (w1 := []) hP hD [0] [1, 2, 3, 4, 5, 6, 7, 8, 9, 10, 11, 12, 13, 14, 15, 16] rfl rfl (by decide) (by decide) hk1 hFc (va_P_nil H1) va_D_nil
  generalize H1 = H at hP hS ⊢
  have hP : va_P (dC, dI) vwCl [((q 0), .inr (8, [.ref (q 16), .int 0, .int 0, .int 0])), ((q 16), .inl (kB, 240, .inl fB)), ((q 1), .inr (5, [.int 0, .int 0, .int 0, .int 0, .ref (q 20), .ref (q 21), .ref (q 22), .ref (q 23)])), ((q 2), .inr (5, [.int 0, .int 0, .int 0, .int 0, .ref (q 24), .ref (q 25), .ref (q 26), .ref (q 27)])), ((q 24), .inl (kR, 2, .inl (fun _ => 0))), ((q 3), .inr (2, [.ref (q 0), .ref (q 28), .int 0])), ((q 4), .inr (3, [.ref (q 30), .ref (q 31), .ref (q 32), .int 0, .int 0, .int (-1), .int 0, .int 0, .int 0, .int 0, .int 0, .int 0])), ((q 5), .inr (9, [.ref (q 33), .ref (q 34), .ref (q 35), .int 0, .int 0])), ((q 8), .inr (7, [.ref (q 36), .ref (q 37), .ref (q 38), .ref (q 39), .int 0, .int 0])), ((q 9), .inr (6, [.int 0, .int 0, .int 0, .ref (q 40), .ref (q 41), .ref (q 42), .ref (q 43)])), ((q 11), .inr (0, [.ref (q 44), .int 0, .int 0])), ((r 100), .inr (12, mF r 0 0 0 0 0 0 0 0 0 0 0 0 0 (-1) 1)), ((r 1), .inl (kT, 240, .inl fT)), ((r 18), .inl (kU, 2, .inl (fun _ => 0))), ((r 24), .inl (kL, 5, .inl (fun _ => 0))), ((r 32), .inl (kN, 208, .inl (fun _ => 0)))] H := hP
  have hD : va_D (fun q : Nat => s.heap.size ≤ q) [((q 0), .inr (8, [.ref (q 16), .int 0, .int 0, .int 0])), ((q 16), .inl (kB, 240, .inl fB)), ((q 1), .inr (5, [.int 0, .int 0, .int 0, .int 0, .ref (q 20), .ref (q 21), .ref (q 22), .ref (q 23)])), ((q 2), .inr (5, [.int 0, .int 0, .int 0, .int 0, .ref (q 24), .ref (q 25), .ref (q 26), .ref (q 27)])), ((q 24), .inl (kR, 2, .inl (fun _ => 0))), ((q 3), .inr (2, [.ref (q 0), .ref (q 28), .int 0])), ((q 4), .inr (3, [.ref (q 30), .ref (q 31), .ref (q 32), .int 0, .int 0, .int (-1), .int 0, .int 0, .int 0, .int 0, .int 0, .int 0])), ((q 5), .inr (9, [.ref (q 33), .ref (q 34), .ref (q 35), .int 0, .int 0])), ((q 8), .inr (7, [.ref (q 36), .ref (q 37), .ref (q 38), .ref (q 39), .int 0, .int 0])), ((q 9), .inr (6, [.int 0, .int 0, .int 0, .ref (q 40), .ref (q 41), .ref (q 42), .ref (q 43)])), ((q 11), .inr (0, [.ref (q 44), .int 0, .int 0])), ((r 100), .inr (12, mF r 0 0 0 0 0 0 0 0 0 0 0 0 0 (-1) 1)), ((r 1), .inl (kT, 240, .inl fT)), ((r 18), .inl (kU, 2, .inl (fun _ => 0))), ((r 24), .inl (kL, 5, .inl (fun _ => 0))), ((r 32), .inl (kN, 208, .inl (fun _ => 0)))] := hD
  refine W.widen (k := 335) (n := 33214) (Nat.le_of_ble_eq_true rfl) (Nat.le_of_ble_eq_true rfl) ?_
  obtain rfl : r_1 = (-1) := hw
  refine lv_aload_n hx hb dL_law_1595 rfl (lv_at hl 2 rfl) ?_
  have hPc := hP.sub (ws' := [((r 100), .inr (12, mF r 0 0 0 0 0 0 0 0 0 0 0 0 0 (-1) 1))]) [11] rfl
  have hDc := hD.sub (ws' := [((r 100), .inr (12, mF r 0 0 0 0 0 0 0 0 0 0 0 0 0 (-1) 1))]) [11] (by decide) rfl
  have hKc := hK.sub (tys' := []) [] rfl
  have hFc := va_free (wc := [((r 100), .inr (12, mF r 0 0 0 0 0 0 0 0 0 0 0 0 0 (-1) 1))]) hD hS hA [11] rfl
  refine va_calli (va_runV (As := []) (rest := [.int (-1)]) ⟨hx, hb, hml, hown, hts⟩ (f_X12_back l dC dI H.size r ) (cwV 0 hts g_f_L_law_f_X12_back rfl rfl rfl (by decide +kernel) ⟨Nat.le_of_ble_eq_true rfl, Nat.le_of_ble_eq_true rfl⟩) ⟨cW_blind, va_recv hKc hPc (ci := 12) (q0 := 0) rfl rfl, fun U hU hW => ⟨rfl, cW_use hU hW hPc hKc hDc hG⟩⟩ rfl rfl hl.1 rfl (lv_room (Nat.le_of_ble_eq_true rfl)) dL_law_1596 ⟨Nat.le_of_ble_eq_true rfl, Nat.le_of_ble_eq_true rfl⟩) hS (fun q _ h => hFc q h) hFc (fun r_2 u t H1 locs ht hvm hw hB hz1 hk1 hS => ?_)
  obtain ⟨hP, hD⟩ := va_join (wr := [((q 0), .inr (8, [.ref (q 16), .int 0, .int 0, .int 0])), ((q 16), .inl (kB, 240, .inl fB)), ((q 1), .inr (5, [.int 0, .int 0, .int 0, .int 0, .ref (q 20), .ref (q 21), .ref (q 22), .ref (q 23)])), ((q 2), .inr (5, [.int 0, .int 0, .int 0, .int 0, .ref (q 24), .ref (q 25), .ref (q 26), .ref (q 27)])), ((q 24), .inl (kR, 2, .inl (fun _ => 0))), ((q 3), .inr (2, [.ref (q 0), .ref (q 28), .int 0])), ((q 4), .inr (3, [.ref (q 30), .ref (q 31), .ref (q 32), .int 0, .int 0, .int (-1), .int 0, .int 0, .int 0, .int 0, .int 0, .int 0])), ((q 5), .inr (9, [.ref (q 33), .ref (q 34), .ref (q 35), .int 0, .int 0])), ((q 8), .inr (7, [.ref (q 36), .ref (q 37), .ref (q 38), .ref (q 39), .int 0, .int 0])), ((q 9), .inr (6, [.int 0, .int 0, .int 0, .ref (q 40), .ref (q 41), .ref (q 42), .ref (q 43)])), ((q 11), .inr (0, [.ref (q 44), .int 0, .int 0])), ((r 1), .inl (kT, 240, .inl fT)), ((r 18), .inl (kU, 2, .inl (fun _ => 0))), ((r 24), .inl (kL, 5, .inl (fun _ => 0))), ((r 32), .inl (kN, 208, .inl (fun _ => 0)))]) (w1 := []) hP hD [11] [0, 1, 2, 3, 4, 5, 6, 7, 8, 9, 10, 12, 13, 14, 15] rfl rfl (by decide) (by decide) hk1 hFc (va_P_nil H1) va_D_nil
  generalize H1 = H at hP hS ⊢
  have hP : va_P (dC, dI) vwCl [((q 0), .inr (8, [.ref (q 16), .int 0, .int 0, .int 0])), ((q 16), .inl (kB, 240, .inl fB)), ((q 1), .inr (5, [.int 0, .int 0, .int 0, .int 0, .ref (q 20), .ref (q 21), .ref (q 22), .ref (q 23)])), ((q 2), .inr (5, [.int 0, .int 0, .int 0, .int 0, .ref (q 24), .ref (q 25), .ref (q 26), .ref (q 27)])), ((q 24), .inl (kR, 2, .inl (fun _ => 0))), ((q 3), .inr (2, [.ref (q 0), .ref (q 28), .int 0])), ((q 4), .inr (3, [.ref (q 30), .ref (q 31), .ref (q 32), .int 0, .int 0, .int (-1), .int 0, .int 0, .int 0, .int 0, .int 0, .int 0])), ((q 5), .inr (9, [.ref (q 33), .ref (q 34), .ref (q 35), .int 0, .int 0])), ((q 8), .inr (7, [.ref (q 36), .ref (q 37), .ref (q 38), .ref (q 39), .int 0, .int 0])), ((q 9), .inr (6, [.int 0, .int 0, .int 0, .ref (q 40), .ref (q 41), .ref (q 42), .ref (q 43)])), ((q 11), .inr (0, [.ref (q 44), .int 0, .int 0])), ((r 1), .inl (kT, 240, .inl fT)), ((r 18), .inl (kU, 2, .inl (fun _ => 0))), ((r 24), .inl (kL, 5, .inl (fun _ => 0))), ((r 32), .inl (kN, 208, .inl (fun _ => 0)))] H := hP
  have hD : va_D (fun q : Nat => s.heap.size ≤ q) [((q 0), .inr (8, [.ref (q 16), .int 0, .int 0, .int 0])), ((q 16), .inl (kB, 240, .inl fB)), ((q 1), .inr (5, [.int 0, .int 0, .int 0, .int 0, .ref (q 20), .ref (q 21), .ref (q 22), .ref (q 23)])), ((q 2), .inr (5, [.int 0, .int 0, .int 0, .int 0, .ref (q 24), .ref (q 25), .ref (q 26), .ref (q 27)])), ((q 24), .inl (kR, 2, .inl (fun _ => 0))), ((q 3), .inr (2, [.ref (q 0), .ref (q 28), .int 0])), ((q 4), .inr (3, [.ref (q 30), .ref (q 31), .ref (q 32), .int 0, .int 0, .int (-1), .int 0, .int 0, .int 0, .int 0, .int 0, .int 0])), ((q 5), .inr (9, [.ref (q 33), .ref (q 34), .ref (q 35), .int 0, .int 0])), ((q 8), .inr (7, [.ref (q 36), .ref (q 37), .ref (q 38), .ref (q 39), .int 0, .int 0])), ((q 9), .inr (6, [.int 0, .int 0, .int 0, .ref (q 40), .ref (q 41), .ref (q 42), .ref (q 43)])), ((q 11), .inr (0, [.ref (q 44), .int 0, .int 0])), ((r 1), .inl (kT, 240, .inl fT)), ((r 18), .inl (kU, 2, .inl (fun _ => 0))), ((r 24), .inl (kL, 5, .inl (fun _ => 0))), ((r 32), .inl (kN, 208, .inl (fun _ => 0)))] := hD
  refine W.widen (k := 335) (n := 33214) (Nat.le_of_ble_eq_true rfl) (Nat.le_of_ble_eq_true rfl) ?_
  obtain rfl : r_2 = (-1) := hw
  refine lv_icmp_eq (tgt := 1629) hx hb dL_law_1599 (by decide) (fun c_3 => ?_) (fun c_3 => absurd (by decide) c_3)
  exact lc_exit C0 hS (by decide) (by decide) ls (lv_sub hl [0, 4] rfl)
set_option maxHeartbeats 4000000 in
set_option maxRecDepth 100000 in
theorem lc_41 {p : Program} {l : Launch} {e : Env} {s : State} {m : MethodId} {below : List Frame} {meth : Method} {c : Code} {b : Nat} {xs : Nat → Int32} {H : Heap} {locs : List Loc} {ls : Array Slot} {dC : Nat → ClassId} {dI : Nat → Nat → Nat} {sk sv : Nat → Nat} {s2 tz s3 : Nat} (q r : Nat → Nat) (kB : ClassId) (kR : ClassId) (kT : ClassId) (kU : ClassId) (kL : ClassId) (kN : ClassId) (fB fT : Nat → Int32) (qo : Nat) (hlt : l.stackTraces = false) (C0 : lw_At p s m meth c b 6 xs) (hG : gxP s) (hE : exP sk sv s2 tz (fun q : Nat => s.heap.size ≤ q) s s.heap) (hT : tP s3 (fun q : Nat => s.heap.size ≤ q) s s.heap) (hK : va_K (dC, dI) vwCl [(kB, .int), (kR, .int), (kT, .byte), (kU, .int), (kL, .int), (kN, .int)] s) (hP : va_P (dC, dI) vwCl [((q 15), .inr (11, xF q 0 1)), ((q 0), .inr (8, [.ref (q 16), .int 0, .int 0, .int 0])), ((q 16), .inl (kB, 240, .inl fB)), ((q 1), .inr (5, [.int 0, .int 0, .int 0, .int 0, .ref (q 20), .ref (q 21), .ref (q 22), .ref (q 23)])), ((q 2), .inr (5, [.int 0, .int 0, .int 0, .int 0, .ref (q 24), .ref (q 25), .ref (q 26), .ref (q 27)])), ((q 24), .inl (kR, 2, .inl (fun _ => 0))), ((q 3), .inr (2, [.ref (q 0), .ref (q 28), .int 0])), ((q 4), .inr (3, [.ref (q 30), .ref (q 31), .ref (q 32), .int 0, .int 0, .int (-1), .int 0, .int 0, .int 0, .int 0, .int 0, .int 0])), ((q 5), .inr (9, [.ref (q 33), .ref (q 34), .ref (q 35), .int 0, .int 0])), ((q 8), .inr (7, [.ref (q 36), .ref (q 37), .ref (q 38), .ref (q 39), .int 0, .int 0])), ((q 9), .inr (6, [.int 0, .int 0, .int 0, .ref (q 40), .ref (q 41), .ref (q 42), .ref (q 43)])), ((q 11), .inr (0, [.ref (q 44), .int 0, .int 0])), ((r 100), .inr (12, mF r 0 0 0 0 0 0 0 0 0 0 0 0 0 (-1) 1)), ((r 1), .inl (kT, 240, .inl fT)), ((r 18), .inl (kU, 2, .inl (fun _ => 0))), ((r 24), .inl (kL, 5, .inl (fun _ => 0))), ((r 32), .inl (kN, 208, .inl (fun _ => 0)))] H) (hD : va_D (fun q : Nat => s.heap.size ≤ q) [((q 15), .inr (11, xF q 0 1)), ((q 0), .inr (8, [.ref (q 16), .int 0, .int 0, .int 0])), ((q 16), .inl (kB, 240, .inl fB)), ((q 1), .inr (5, [.int 0, .int 0, .int 0, .int 0, .ref (q 20), .ref (q 21), .ref (q 22), .ref (q 23)])), ((q 2), .inr (5, [.int 0, .int 0, .int 0, .int 0, .ref (q 24), .ref (q 25), .ref (q 26), .ref (q 27)])), ((q 24), .inl (kR, 2, .inl (fun _ => 0))), ((q 3), .inr (2, [.ref (q 0), .ref (q 28), .int 0])), ((q 4), .inr (3, [.ref (q 30), .ref (q 31), .ref (q 32), .int 0, .int 0, .int (-1), .int 0, .int 0, .int 0, .int 0, .int 0, .int 0])), ((q 5), .inr (9, [.ref (q 33), .ref (q 34), .ref (q 35), .int 0, .int 0])), ((q 8), .inr (7, [.ref (q 36), .ref (q 37), .ref (q 38), .ref (q 39), .int 0, .int 0])), ((q 9), .inr (6, [.int 0, .int 0, .int 0, .ref (q 40), .ref (q 41), .ref (q 42), .ref (q 43)])), ((q 11), .inr (0, [.ref (q 44), .int 0, .int 0])), ((r 100), .inr (12, mF r 0 0 0 0 0 0 0 0 0 0 0 0 0 (-1) 1)), ((r 1), .inl (kT, 240, .inl fT)), ((r 18), .inl (kU, 2, .inl (fun _ => 0))), ((r 24), .inl (kL, 5, .inl (fun _ => 0))), ((r 32), .inl (kN, 208, .inl (fun _ => 0)))]) (hS : va_S (fun q : Nat => s.heap.size ≤ q) s.heap H locs) (hl : lv_has ls 7 [(0, .ref b), (1, .ref (q 15)), (2, .ref (r 100)), (3, .ref qo), (4, .int 0)]) : W p l e room_1 s m #[Value.ref b] below meth c H locs 335 33214 (lw_Z below #[Value.ref b] s) (F0 m 1604 ls []) := by
  obtain ⟨hx, hb, hr, hml, hown0, hts, hX, hbl, hlocks, hgv⟩ := id C0
  have hown : s.vm.findClass RL = some m.cls := hown0
  have hA : ∀ q : Nat, s.heap.size ≤ q → (fun q : Nat => s.heap.size ≤ q) q := fun _ h => h
  have hbA : ¬ (fun q : Nat => s.heap.size ≤ q) b := Nat.not_le.mpr hbl
  have hiX11 : ∀ w ∈ u_ws RX11 TX11 17, w ∈ lw_tbl := in_X11
  have hiX12 : ∀ w ∈ u_ws RX12 TX12 54, w ∈ lw_tbl := in_X12
  refine lv_aload_n hx hb dL_law_1604 rfl (lv_at hl 1 rfl) ?_
  refine lv_aload_n hx hb dL_law_1605 rfl (lv_at hl 0 rfl) ?_
  refine lv_iload hx hb dL_law_1606 (lv_at hl 4 rfl) ?_
  refine lv_iconst (v := 1) hx hb dL_law_1608 (by decide) ?_
  refine lv_iadd hx hb dL_law_1609 ?_
  refine lv_topi (fun v_1 e_1 => ?_)
  obtain rfl : v_1 = 1 := by rw [e_1]; decide
  refine va_sld hx hb hX hbl hbA hS (i := 1) (vp_in_nI (n := 1) (by decide) (by decide)) dL_law_1610 ?_
  refine lv_topi (fun v_2 e_2 => ?_)
  obtain rfl : v_2 = xs 1 := by rw [e_2]; exact congrArg xs (by decide)
  have hPc := hP.sub (ws' := [((q 15), .inr (11, xF q 0 1)), ((q 1), .inr (5, [.int 0, .int 0, .int 0, .int 0, .ref (q 20), .ref (q 21), .ref (q 22), .ref (q 23)])), ((q 4), .inr (3, [.ref (q 30), .ref (q 31), .ref (q 32), .int 0, .int 0, .int (-1), .int 0, .int 0, .int 0, .int 0, .int 0, .int 0])), ((q 5), .inr (9, [.ref (q 33), .ref (q 34), .ref (q 35), .int 0, .int 0])), ((q 0), .inr (8, [.ref (q 16), .int 0, .int 0, .int 0])), ((q 9), .inr (6, [.int 0, .int 0, .int 0, .ref (q 40), .ref (q 41), .ref (q 42), .ref (q 43)])), ((q 8), .inr (7, [.ref (q 36), .ref (q 37), .ref (q 38), .ref (q 39), .int 0, .int 0])), ((q 11), .inr (0, [.ref (q 44), .int 0, .int 0]))]) [0, 3, 7, 8, 1, 10, 9, 11] rfl
  have hDc := hD.sub (ws' := [((q 15), .inr (11, xF q 0 1)), ((q 1), .inr (5, [.int 0, .int 0, .int 0, .int 0, .ref (q 20), .ref (q 21), .ref (q 22), .ref (q 23)])), ((q 4), .inr (3, [.ref (q 30), .ref (q 31), .ref (q 32), .int 0, .int 0, .int (-1), .int 0, .int 0, .int 0, .int 0, .int 0, .int 0])), ((q 5), .inr (9, [.ref (q 33), .ref (q 34), .ref (q 35), .int 0, .int 0])), ((q 0), .inr (8, [.ref (q 16), .int 0, .int 0, .int 0])), ((q 9), .inr (6, [.int 0, .int 0, .int 0, .ref (q 40), .ref (q 41), .ref (q 42), .ref (q 43)])), ((q 8), .inr (7, [.ref (q 36), .ref (q 37), .ref (q 38), .ref (q 39), .int 0, .int 0])), ((q 11), .inr (0, [.ref (q 44), .int 0, .int 0]))]) [0, 3, 7, 8, 1, 10, 9, 11] (by decide) rfl
  have hKc := hK.sub (tys' := []) [] rfl
  have hFc := va_free (wc := [((q 15), .inr (11, xF q 0 1)), ((q 1), .inr (5, [.int 0, .int 0, .int 0, .int 0, .ref (q 20), .ref (q 21), .ref (q 22), .ref (q 23)])), ((q 4), .inr (3, [.ref (q 30), .ref (q 31), .ref (q 32), .int 0, .int 0, .int (-1), .int 0, .int 0, .int 0, .int 0, .int 0, .int 0])), ((q 5), .inr (9, [.ref (q 33), .ref (q 34), .ref (q 35), .int 0, .int 0])), ((q 0), .inr (8, [.ref (q 16), .int 0, .int 0, .int 0])), ((q 9), .inr (6, [.int 0, .int 0, .int 0, .ref (q 40), .ref (q 41), .ref (q 42), .ref (q 43)])), ((q 8), .inr (7, [.ref (q 36), .ref (q 37), .ref (q 38), .ref (q 39), .int 0, .int 0])), ((q 11), .inr (0, [.ref (q 44), .int 0, .int 0]))]) hD hS hA [0, 3, 7, 8, 1, 10, 9, 11] rfl
  refine va_calli (va_runV (As := [.int (xs 1)]) (rest := []) ⟨hx, hb, hml, hown, hts⟩ (f_X11_count l dC dI H.size q ((xs 1))) (cwV 1 hts g_f_L_law_f_X11_count rfl rfl rfl (by decide +kernel) ⟨Nat.le_of_ble_eq_true rfl, Nat.le_of_ble_eq_true rfl⟩) ⟨cW_blind, va_recv hKc hPc (ci := 11) (q0 := 0) rfl rfl, fun U hU hW => ⟨rfl, cW_use hU hW hPc hKc hDc hG⟩⟩ rfl rfl hl.1 rfl (lv_room (Nat.le_of_ble_eq_true rfl)) dL_law_1611 ⟨Nat.le_of_ble_eq_true rfl, Nat.le_of_ble_eq_true rfl⟩) hS (fun q _ h => hFc q h) hFc (fun r_3 u t H1 locs ht hvm hw hB hz1 hk1 hS => ?_)
  obtain ⟨hP, hD⟩ := va_join (wr := [((q 16), .inl (kB, 240, .inl fB)), ((q 2), .inr (5, [.int 0, .int 0, .int 0, .int 0, .ref (q 24), .ref (q 25), .ref (q 26), .ref (q 27)])), ((q 24), .inl (kR, 2, .inl (fun _ => 0))), ((q 3), .inr (2, [.ref (q 0), .ref (q 28), .int 0])), ((r 100), .inr (12, mF r 0 0 0 0 0 0 0 0 0 0 0 0 0 (-1) 1)), ((r 1), .inl (kT, 240, .inl fT)), ((r 18), .inl (kU, 2, .inl (fun _ => 0))), ((r 24), .inl (kL, 5, .inl (fun _ => 0))), ((r 32), .inl (kN, 208, .inl (fun _ => 0)))]) (w1 := []) hP hD [0, 3, 7, 8, 1, 10, 9, 11] [2, 4, 5, 6, 12, 13, 14, 15, 16] rfl rfl (by decide) (by decide) hk1 hFc (va_P_nil H1) va_D_nil
  generalize H1 = H at hP hS ⊢
  have hP : va_P (dC, dI) vwCl [((q 16), .inl (kB, 240, .inl fB)), ((q 2), .inr (5, [.int 0, .int 0, .int 0, .int 0, .ref (q 24), .ref (q 25), .ref (q 26), .ref (q 27)])), ((q 24), .inl (kR, 2, .inl (fun _ => 0))), ((q 3), .inr (2, [.ref (q 0), .ref (q 28), .int 0])), ((r 100), .inr (12, mF r 0 0 0 0 0 0 0 0 0 0 0 0 0 (-1) 1)), ((r 1), .inl (kT, 240, .inl fT)), ((r 18), .inl (kU, 2, .inl (fun _ => 0))), ((r 24), .inl (kL, 5, .inl (fun _ => 0))), ((r 32), .inl (kN, 208, .inl (fun _ => 0)))] H := hP
  have hD : va_D (fun q : Nat => s.heap.size ≤ q) [((q 16), .inl (kB, 240, .inl fB)), ((q 2), .inr (5, [.int 0, .int 0, .int 0, .int 0, .ref (q 24), .ref (q 25), .ref (q 26), .ref (q 27)])), ((q 24), .inl (kR, 2, .inl (fun _ => 0))), ((q 3), .inr (2, [.ref (q 0), .ref (q 28), .int 0])), ((r 100), .inr (12, mF r 0 0 0 0 0 0 0 0 0 0 0 0 0 (-1) 1)), ((r 1), .inl (kT, 240, .inl fT)), ((r 18), .inl (kU, 2, .inl (fun _ => 0))), ((r 24), .inl (kL, 5, .inl (fun _ => 0))), ((r 32), .inl (kN, 208, .inl (fun _ => 0)))] := hD
  refine W.widen (k := 335) (n := 33214) (Nat.le_of_ble_eq_true rfl) (Nat.le_of_ble_eq_true rfl) ?_
  have er_3 := hw
  refine lv_aload_n hx hb dL_law_1614 rfl (lv_at hl 2 rfl) ?_
  refine lv_aload_n hx hb dL_law_1615 rfl (lv_at hl 0 rfl) ?_
  refine lv_iload hx hb dL_law_1616 (lv_at hl 4 rfl) ?_
  refine lv_iconst (v := 1) hx hb dL_law_1618 (by decide) ?_
  refine lv_iadd hx hb dL_law_1619 ?_
  refine lv_topi (fun v_4 e_4 => ?_)
  obtain rfl : v_4 = 1 := by rw [e_4]; decide
  refine va_sld hx hb hX hbl hbA hS (i := 1) (vp_in_nI (n := 1) (by decide) (by decide)) dL_law_1620 ?_
  refine lv_topi (fun v_5 e_5 => ?_)
  obtain rfl : v_5 = xs 1 := by rw [e_5]; exact congrArg xs (by decide)
  have hPc := hP.sub (ws' := [((r 100), .inr (12, mF r 0 0 0 0 0 0 0 0 0 0 0 0 0 (-1) 1)), ((r 32), .inl (kN, 208, .inl (fun _ => 0)))]) [4, 8] rfl
  have hDc := hD.sub (ws' := [((r 100), .inr (12, mF r 0 0 0 0 0 0 0 0 0 0 0 0 0 (-1) 1)), ((r 32), .inl (kN, 208, .inl (fun _ => 0)))]) [4, 8] (by decide) rfl
  have hKc := hK.sub (tys' := [(kN, .int)]) [5] rfl
  have hFc := va_free (wc := [((r 100), .inr (12, mF r 0 0 0 0 0 0 0 0 0 0 0 0 0 (-1) 1)), ((r 32), .inl (kN, 208, .inl (fun _ => 0)))]) hD hS hA [4, 8] rfl
  refine va_calli (va_runV (As := [.int (xs 1)]) (rest := [.int r_3]) ⟨hx, hb, hml, hown, hts⟩ (f_X12_count l dC dI H.size r kN ((xs 1))) (cwV 1 hts g_f_L_law_f_X12_count rfl rfl rfl (by decide +kernel) ⟨Nat.le_of_ble_eq_true rfl, Nat.le_of_ble_eq_true rfl⟩) ⟨cW_blind, va_recv hKc hPc (ci := 12) (q0 := 0) rfl rfl, fun U hU hW => ⟨rfl, cW_use hU hW hPc hKc hDc hG⟩⟩ rfl rfl hl.1 rfl (lv_room (Nat.le_of_ble_eq_true rfl)) dL_law_1621 ⟨Nat.le_of_ble_eq_true rfl, Nat.le_of_ble_eq_true rfl⟩) hS (fun q _ h => hFc q h) hFc (fun r_6 u t H1 locs ht hvm hw hB hz1 hk1 hS => ?_)
  obtain ⟨hP, hD⟩ := va_join (wr := [((q 16), .inl (kB, 240, .inl fB)), ((q 2), .inr (5, [.int 0, .int 0, .int 0, .int 0, .ref (q 24), .ref (q 25), .ref (q 26), .ref (q 27)])), ((q 24), .inl (kR, 2, .inl (fun _ => 0))), ((q 3), .inr (2, [.ref (q 0), .ref (q 28), .int 0])), ((r 1), .inl (kT, 240, .inl fT)), ((r 18), .inl (kU, 2, .inl (fun _ => 0))), ((r 24), .inl (kL, 5, .inl (fun _ => 0)))]) (w1 := []) hP hD [4, 8] [0, 1, 2, 3, 5, 6, 7] rfl rfl (by decide) (by decide) hk1 hFc (va_P_nil H1) va_D_nil
  generalize H1 = H at hP hS ⊢
  have hP : va_P (dC, dI) vwCl [((q 16), .inl (kB, 240, .inl fB)), ((q 2), .inr (5, [.int 0, .int 0, .int 0, .int 0, .ref (q 24), .ref (q 25), .ref (q 26), .ref (q 27)])), ((q 24), .inl (kR, 2, .inl (fun _ => 0))), ((q 3), .inr (2, [.ref (q 0), .ref (q 28), .int 0])), ((r 1), .inl (kT, 240, .inl fT)), ((r 18), .inl (kU, 2, .inl (fun _ => 0))), ((r 24), .inl (kL, 5, .inl (fun _ => 0)))] H := hP
  have hD : va_D (fun q : Nat => s.heap.size ≤ q) [((q 16), .inl (kB, 240, .inl fB)), ((q 2), .inr (5, [.int 0, .int 0, .int 0, .int 0, .ref (q 24), .ref (q 25), .ref (q 26), .ref (q 27)])), ((q 24), .inl (kR, 2, .inl (fun _ => 0))), ((q 3), .inr (2, [.ref (q 0), .ref (q 28), .int 0])), ((r 1), .inl (kT, 240, .inl fT)), ((r 18), .inl (kU, 2, .inl (fun _ => 0))), ((r 24), .inl (kL, 5, .inl (fun _ => 0)))] := hD
  refine W.widen (k := 335) (n := 33214) (Nat.le_of_ble_eq_true rfl) (Nat.le_of_ble_eq_true rfl) ?_
  have er_6 := hw
  refine lv_icmp_eq (tgt := 1629) hx hb dL_law_1624 (by decide) (fun _ => ?_) (fun c9 => absurd (by rw [er_3, er_6]) c9)
  exact lc_exit C0 hS (by decide) (by decide) ls (lv_sub hl [0, 4] rfl)
