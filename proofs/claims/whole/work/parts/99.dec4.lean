/-! DECODE ROWS OF THE LAW, by program -/
theorem dL_law_1066 : gd cL_law 1066 (.invokevirtual 108) 3 1069 := by decide +kernel
theorem dL_law_1069 : gb cL_law 1069 (.if_icmp .eq 899) (899) 1072 1968 := by decide +kernel
theorem dL_law_1072 : decode cL_law 1072 = .ok (.iconst 0, 1) ∧ 1072 + 1 = 1073 ∧ Int32.ofInt (0) = (0) := by decide +kernel
theorem dL_law_1073 : gd cL_law 1073 (.ireturn) 1 1074 := by decide +kernel
theorem dL_law_1074 : gd cL_law 1074 (.aload_n 1) 1 1075 := by decide +kernel
theorem dL_law_1075 : gd cL_law 1075 (.aload_n 0) 1 1076 := by decide +kernel
theorem dL_law_1076 : gd cL_law 1076 (.iload 4) 2 1078 := by decide +kernel
theorem dL_law_1078 : decode cL_law 1078 = .ok (.iconst 1, 1) ∧ 1078 + 1 = 1079 ∧ Int32.ofInt (1) = (1) := by decide +kernel
theorem dL_law_1079 : gd cL_law 1079 (.iadd) 1 1080 := by decide +kernel
theorem dL_law_1080 : gd cL_law 1080 (.iaload) 1 1081 := by decide +kernel
theorem dL_law_1081 : gd cL_law 1081 (.invokevirtual 109) 3 1084 := by decide +kernel
theorem dL_law_1084 : gd cL_law 1084 (.aload_n 2) 1 1085 := by decide +kernel
theorem dL_law_1085 : gd cL_law 1085 (.aload_n 0) 1 1086 := by decide +kernel
theorem dL_law_1086 : gd cL_law 1086 (.iload 4) 2 1088 := by decide +kernel
theorem dL_law_1088 : decode cL_law 1088 = .ok (.iconst 1, 1) ∧ 1088 + 1 = 1089 ∧ Int32.ofInt (1) = (1) := by decide +kernel
theorem dL_law_1089 : gd cL_law 1089 (.iadd) 1 1090 := by decide +kernel
theorem dL_law_1090 : gd cL_law 1090 (.iaload) 1 1091 := by decide +kernel
theorem dL_law_1091 : gd cL_law 1091 (.invokevirtual 112) 3 1094 := by decide +kernel
theorem dL_law_1094 : gb cL_law 1094 (.if_icmp .eq 874) (874) 1097 1968 := by decide +kernel
theorem dL_law_1097 : decode cL_law 1097 = .ok (.iconst 0, 1) ∧ 1097 + 1 = 1098 ∧ Int32.ofInt (0) = (0) := by decide +kernel
theorem dL_law_1098 : gd cL_law 1098 (.ireturn) 1 1099 := by decide +kernel
theorem dL_law_1099 : gd cL_law 1099 (.aload_n 1) 1 1100 := by decide +kernel
theorem dL_law_1100 : gd cL_law 1100 (.invokevirtual 113) 3 1103 := by decide +kernel
theorem dL_law_1103 : gd cL_law 1103 (.aload_n 2) 1 1104 := by decide +kernel
theorem dL_law_1104 : gd cL_law 1104 (.invokevirtual 116) 3 1107 := by decide +kernel
theorem dL_law_1107 : gb cL_law 1107 (.if_icmp .eq 861) (861) 1110 1968 := by decide +kernel
theorem dL_law_1110 : decode cL_law 1110 = .ok (.iconst 0, 1) ∧ 1110 + 1 = 1111 ∧ Int32.ofInt (0) = (0) := by decide +kernel
theorem dL_law_1111 : gd cL_law 1111 (.ireturn) 1 1112 := by decide +kernel
theorem dL_law_1112 : gd cL_law 1112 (.aload_n 1) 1 1113 := by decide +kernel
theorem dL_law_1113 : gd cL_law 1113 (.aload_n 0) 1 1114 := by decide +kernel
theorem dL_law_1114 : gd cL_law 1114 (.iload 4) 2 1116 := by decide +kernel
theorem dL_law_1116 : decode cL_law 1116 = .ok (.iconst 1, 1) ∧ 1116 + 1 = 1117 ∧ Int32.ofInt (1) = (1) := by decide +kernel
theorem dL_law_1117 : gd cL_law 1117 (.iadd) 1 1118 := by decide +kernel
theorem dL_law_1118 : gd cL_law 1118 (.iaload) 1 1119 := by decide +kernel
theorem dL_law_1119 : gd cL_law 1119 (.aload_n 0) 1 1120 := by decide +kernel
theorem dL_law_1120 : gd cL_law 1120 (.iload 4) 2 1122 := by decide +kernel
theorem dL_law_1122 : decode cL_law 1122 = .ok (.iconst 2, 1) ∧ 1122 + 1 = 1123 ∧ Int32.ofInt (2) = (2) := by decide +kernel
theorem dL_law_1123 : gd cL_law 1123 (.iadd) 1 1124 := by decide +kernel
theorem dL_law_1124 : gd cL_law 1124 (.iaload) 1 1125 := by decide +kernel
theorem dL_law_1125 : gd cL_law 1125 (.aload_n 0) 1 1126 := by decide +kernel
theorem dL_law_1126 : gd cL_law 1126 (.iload 4) 2 1128 := by decide +kernel
theorem dL_law_1128 : decode cL_law 1128 = .ok (.iconst 3, 1) ∧ 1128 + 1 = 1129 ∧ Int32.ofInt (3) = (3) := by decide +kernel
theorem dL_law_1129 : gd cL_law 1129 (.iadd) 1 1130 := by decide +kernel
theorem dL_law_1130 : gd cL_law 1130 (.iaload) 1 1131 := by decide +kernel
theorem dL_law_1131 : gd cL_law 1131 (.aload_n 0) 1 1132 := by decide +kernel
theorem dL_law_1132 : gd cL_law 1132 (.iload 4) 2 1134 := by decide +kernel
theorem dL_law_1134 : decode cL_law 1134 = .ok (.iconst 4, 1) ∧ 1134 + 1 = 1135 ∧ Int32.ofInt (4) = (4) := by decide +kernel
theorem dL_law_1135 : gd cL_law 1135 (.iadd) 1 1136 := by decide +kernel
theorem dL_law_1136 : gd cL_law 1136 (.iaload) 1 1137 := by decide +kernel
theorem dL_law_1137 : gd cL_law 1137 (.aload_n 0) 1 1138 := by decide +kernel
theorem dL_law_1138 : gd cL_law 1138 (.iload 4) 2 1140 := by decide +kernel
theorem dL_law_1140 : decode cL_law 1140 = .ok (.iconst 5, 1) ∧ 1140 + 1 = 1141 ∧ Int32.ofInt (5) = (5) := by decide +kernel
theorem dL_law_1141 : gd cL_law 1141 (.iadd) 1 1142 := by decide +kernel
theorem dL_law_1142 : gd cL_law 1142 (.iaload) 1 1143 := by decide +kernel
theorem dL_law_1143 : gd cL_law 1143 (.invokevirtual 117) 3 1146 := by decide +kernel
theorem dL_law_1146 : gd cL_law 1146 (.aload_n 2) 1 1147 := by decide +kernel
theorem dL_law_1147 : gd cL_law 1147 (.aload_n 0) 1 1148 := by decide +kernel
theorem dL_law_1148 : gd cL_law 1148 (.iload 4) 2 1150 := by decide +kernel
theorem dL_law_1150 : decode cL_law 1150 = .ok (.iconst 1, 1) ∧ 1150 + 1 = 1151 ∧ Int32.ofInt (1) = (1) := by decide +kernel
theorem dL_law_1151 : gd cL_law 1151 (.iadd) 1 1152 := by decide +kernel
theorem dL_law_1152 : gd cL_law 1152 (.iaload) 1 1153 := by decide +kernel
theorem dL_law_1153 : gd cL_law 1153 (.aload_n 0) 1 1154 := by decide +kernel
theorem dL_law_1154 : gd cL_law 1154 (.iload 4) 2 1156 := by decide +kernel
theorem dL_law_1156 : decode cL_law 1156 = .ok (.iconst 2, 1) ∧ 1156 + 1 = 1157 ∧ Int32.ofInt (2) = (2) := by decide +kernel
theorem dL_law_1157 : gd cL_law 1157 (.iadd) 1 1158 := by decide +kernel
theorem dL_law_1158 : gd cL_law 1158 (.iaload) 1 1159 := by decide +kernel
theorem dL_law_1159 : gd cL_law 1159 (.aload_n 0) 1 1160 := by decide +kernel
theorem dL_law_1160 : gd cL_law 1160 (.iload 4) 2 1162 := by decide +kernel
theorem dL_law_1162 : decode cL_law 1162 = .ok (.iconst 3, 1) ∧ 1162 + 1 = 1163 ∧ Int32.ofInt (3) = (3) := by decide +kernel
theorem dL_law_1163 : gd cL_law 1163 (.iadd) 1 1164 := by decide +kernel
theorem dL_law_1164 : gd cL_law 1164 (.iaload) 1 1165 := by decide +kernel
theorem dL_law_1165 : gd cL_law 1165 (.aload_n 0) 1 1166 := by decide +kernel
theorem dL_law_1166 : gd cL_law 1166 (.iload 4) 2 1168 := by decide +kernel
theorem dL_law_1168 : decode cL_law 1168 = .ok (.iconst 4, 1) ∧ 1168 + 1 = 1169 ∧ Int32.ofInt (4) = (4) := by decide +kernel
theorem dL_law_1169 : gd cL_law 1169 (.iadd) 1 1170 := by decide +kernel
theorem dL_law_1170 : gd cL_law 1170 (.iaload) 1 1171 := by decide +kernel
theorem dL_law_1171 : gd cL_law 1171 (.aload_n 0) 1 1172 := by decide +kernel
theorem dL_law_1172 : gd cL_law 1172 (.iload 4) 2 1174 := by decide +kernel
theorem dL_law_1174 : decode cL_law 1174 = .ok (.iconst 5, 1) ∧ 1174 + 1 = 1175 ∧ Int32.ofInt (5) = (5) := by decide +kernel
theorem dL_law_1175 : gd cL_law 1175 (.iadd) 1 1176 := by decide +kernel
theorem dL_law_1176 : gd cL_law 1176 (.iaload) 1 1177 := by decide +kernel
theorem dL_law_1177 : gd cL_law 1177 (.invokevirtual 120) 3 1180 := by decide +kernel
theorem dL_law_1180 : gb cL_law 1180 (.if_icmp .eq 788) (788) 1183 1968 := by decide +kernel
theorem dL_law_1183 : decode cL_law 1183 = .ok (.iconst 0, 1) ∧ 1183 + 1 = 1184 ∧ Int32.ofInt (0) = (0) := by decide +kernel
theorem dL_law_1184 : gd cL_law 1184 (.ireturn) 1 1185 := by decide +kernel
theorem dL_law_1185 : gd cL_law 1185 (.aload_n 1) 1 1186 := by decide +kernel
theorem dL_law_1186 : gd cL_law 1186 (.aload_n 0) 1 1187 := by decide +kernel
theorem dL_law_1187 : gd cL_law 1187 (.iload 4) 2 1189 := by decide +kernel
theorem dL_law_1189 : decode cL_law 1189 = .ok (.iconst 1, 1) ∧ 1189 + 1 = 1190 ∧ Int32.ofInt (1) = (1) := by decide +kernel
theorem dL_law_1190 : gd cL_law 1190 (.iadd) 1 1191 := by decide +kernel
theorem dL_law_1191 : gd cL_law 1191 (.iaload) 1 1192 := by decide +kernel
theorem dL_law_1192 : gd cL_law 1192 (.aload_n 0) 1 1193 := by decide +kernel
theorem dL_law_1193 : gd cL_law 1193 (.iload 4) 2 1195 := by decide +kernel
theorem dL_law_1195 : decode cL_law 1195 = .ok (.iconst 2, 1) ∧ 1195 + 1 = 1196 ∧ Int32.ofInt (2) = (2) := by decide +kernel
theorem dL_law_1196 : gd cL_law 1196 (.iadd) 1 1197 := by decide +kernel
theorem dL_law_1197 : gd cL_law 1197 (.iaload) 1 1198 := by decide +kernel
theorem dL_law_1198 : gd cL_law 1198 (.aload_n 0) 1 1199 := by decide +kernel
theorem dL_law_1199 : gd cL_law 1199 (.iload 4) 2 1201 := by decide +kernel
theorem dL_law_1201 : decode cL_law 1201 = .ok (.iconst 3, 1) ∧ 1201 + 1 = 1202 ∧ Int32.ofInt (3) = (3) := by decide +kernel
theorem dL_law_1202 : gd cL_law 1202 (.iadd) 1 1203 := by decide +kernel
theorem dL_law_1203 : gd cL_law 1203 (.iaload) 1 1204 := by decide +kernel
theorem dL_law_1204 : gd cL_law 1204 (.aload_n 0) 1 1205 := by decide +kernel
theorem dL_law_1205 : gd cL_law 1205 (.iload 4) 2 1207 := by decide +kernel
theorem dL_law_1207 : decode cL_law 1207 = .ok (.iconst 4, 1) ∧ 1207 + 1 = 1208 ∧ Int32.ofInt (4) = (4) := by decide +kernel
theorem dL_law_1208 : gd cL_law 1208 (.iadd) 1 1209 := by decide +kernel
theorem dL_law_1209 : gd cL_law 1209 (.iaload) 1 1210 := by decide +kernel
theorem dL_law_1210 : gd cL_law 1210 (.aload_n 0) 1 1211 := by decide +kernel
theorem dL_law_1211 : gd cL_law 1211 (.iload 4) 2 1213 := by decide +kernel
theorem dL_law_1213 : decode cL_law 1213 = .ok (.iconst 5, 1) ∧ 1213 + 1 = 1214 ∧ Int32.ofInt (5) = (5) := by decide +kernel
theorem dL_law_1214 : gd cL_law 1214 (.iadd) 1 1215 := by decide +kernel
theorem dL_law_1215 : gd cL_law 1215 (.iaload) 1 1216 := by decide +kernel
theorem dL_law_1216 : gd cL_law 1216 (.aload_n 0) 1 1217 := by decide +kernel
theorem dL_law_1217 : gd cL_law 1217 (.iload 4) 2 1219 := by decide +kernel
theorem dL_law_1219 : decode cL_law 1219 = .ok (.bipush 6, 2) ∧ 1219 + 2 = 1221 ∧ (Int8.ofInt (6)).toInt32 = (6) := by decide +kernel
theorem dL_law_1221 : gd cL_law 1221 (.iadd) 1 1222 := by decide +kernel
theorem dL_law_1222 : gd cL_law 1222 (.iaload) 1 1223 := by decide +kernel
theorem dL_law_1223 : gb cL_law 1223 (.ifCond .eq 7) (7) 1226 1230 := by decide +kernel
theorem dL_law_1226 : decode cL_law 1226 = .ok (.iconst 1, 1) ∧ 1226 + 1 = 1227 ∧ Int32.ofInt (1) = (1) := by decide +kernel
theorem dL_law_1227 : gb cL_law 1227 (.goto 4) (4) 1230 1231 := by decide +kernel
theorem dL_law_1230 : decode cL_law 1230 = .ok (.iconst 0, 1) ∧ 1230 + 1 = 1231 ∧ Int32.ofInt (0) = (0) := by decide +kernel
theorem dL_law_1231 : gd cL_law 1231 (.invokevirtual 121) 3 1234 := by decide +kernel
theorem dL_law_1234 : gd cL_law 1234 (.aload_n 2) 1 1235 := by decide +kernel
theorem dL_law_1235 : gd cL_law 1235 (.aload_n 0) 1 1236 := by decide +kernel
theorem dL_law_1236 : gd cL_law 1236 (.iload 4) 2 1238 := by decide +kernel
theorem dL_law_1238 : decode cL_law 1238 = .ok (.iconst 1, 1) ∧ 1238 + 1 = 1239 ∧ Int32.ofInt (1) = (1) := by decide +kernel
theorem dL_law_1239 : gd cL_law 1239 (.iadd) 1 1240 := by decide +kernel
theorem dL_law_1240 : gd cL_law 1240 (.iaload) 1 1241 := by decide +kernel
theorem dL_law_1241 : gd cL_law 1241 (.aload_n 0) 1 1242 := by decide +kernel
theorem dL_law_1242 : gd cL_law 1242 (.iload 4) 2 1244 := by decide +kernel
theorem dL_law_1244 : decode cL_law 1244 = .ok (.iconst 2, 1) ∧ 1244 + 1 = 1245 ∧ Int32.ofInt (2) = (2) := by decide +kernel
theorem dL_law_1245 : gd cL_law 1245 (.iadd) 1 1246 := by decide +kernel
theorem dL_law_1246 : gd cL_law 1246 (.iaload) 1 1247 := by decide +kernel
theorem dL_law_1247 : gd cL_law 1247 (.aload_n 0) 1 1248 := by decide +kernel
theorem dL_law_1248 : gd cL_law 1248 (.iload 4) 2 1250 := by decide +kernel
theorem dL_law_1250 : decode cL_law 1250 = .ok (.iconst 3, 1) ∧ 1250 + 1 = 1251 ∧ Int32.ofInt (3) = (3) := by decide +kernel
theorem dL_law_1251 : gd cL_law 1251 (.iadd) 1 1252 := by decide +kernel
theorem dL_law_1252 : gd cL_law 1252 (.iaload) 1 1253 := by decide +kernel
theorem dL_law_1253 : gd cL_law 1253 (.aload_n 0) 1 1254 := by decide +kernel
theorem dL_law_1254 : gd cL_law 1254 (.iload 4) 2 1256 := by decide +kernel
theorem dL_law_1256 : decode cL_law 1256 = .ok (.iconst 4, 1) ∧ 1256 + 1 = 1257 ∧ Int32.ofInt (4) = (4) := by decide +kernel
theorem dL_law_1257 : gd cL_law 1257 (.iadd) 1 1258 := by decide +kernel
theorem dL_law_1258 : gd cL_law 1258 (.iaload) 1 1259 := by decide +kernel
theorem dL_law_1259 : gd cL_law 1259 (.aload_n 0) 1 1260 := by decide +kernel
theorem dL_law_1260 : gd cL_law 1260 (.iload 4) 2 1262 := by decide +kernel
theorem dL_law_1262 : decode cL_law 1262 = .ok (.iconst 5, 1) ∧ 1262 + 1 = 1263 ∧ Int32.ofInt (5) = (5) := by decide +kernel
theorem dL_law_1263 : gd cL_law 1263 (.iadd) 1 1264 := by decide +kernel
theorem dL_law_1264 : gd cL_law 1264 (.iaload) 1 1265 := by decide +kernel
theorem dL_law_1265 : gd cL_law 1265 (.aload_n 0) 1 1266 := by decide +kernel
theorem dL_law_1266 : gd cL_law 1266 (.iload 4) 2 1268 := by decide +kernel
theorem dL_law_1268 : decode cL_law 1268 = .ok (.bipush 6, 2) ∧ 1268 + 2 = 1270 ∧ (Int8.ofInt (6)).toInt32 = (6) := by decide +kernel
theorem dL_law_1270 : gd cL_law 1270 (.iadd) 1 1271 := by decide +kernel
theorem dL_law_1271 : gd cL_law 1271 (.iaload) 1 1272 := by decide +kernel
theorem dL_law_1272 : gb cL_law 1272 (.ifCond .eq 7) (7) 1275 1279 := by decide +kernel
theorem dL_law_1275 : decode cL_law 1275 = .ok (.iconst 1, 1) ∧ 1275 + 1 = 1276 ∧ Int32.ofInt (1) = (1) := by decide +kernel
theorem dL_law_1276 : gb cL_law 1276 (.goto 4) (4) 1279 1280 := by decide +kernel
theorem dL_law_1279 : decode cL_law 1279 = .ok (.iconst 0, 1) ∧ 1279 + 1 = 1280 ∧ Int32.ofInt (0) = (0) := by decide +kernel
theorem dL_law_1280 : gd cL_law 1280 (.invokevirtual 125) 3 1283 := by decide +kernel
theorem dL_law_1283 : gb cL_law 1283 (.if_icmp .eq 685) (685) 1286 1968 := by decide +kernel
theorem dL_law_1286 : decode cL_law 1286 = .ok (.iconst 0, 1) ∧ 1286 + 1 = 1287 ∧ Int32.ofInt (0) = (0) := by decide +kernel
theorem dL_law_1287 : gd cL_law 1287 (.ireturn) 1 1288 := by decide +kernel
theorem dL_law_1288 : gd cL_law 1288 (.aload_n 1) 1 1289 := by decide +kernel
theorem dL_law_1289 : gd cL_law 1289 (.aload_n 0) 1 1290 := by decide +kernel
theorem dL_law_1290 : gd cL_law 1290 (.iload 4) 2 1292 := by decide +kernel
theorem dL_law_1292 : decode cL_law 1292 = .ok (.iconst 1, 1) ∧ 1292 + 1 = 1293 ∧ Int32.ofInt (1) = (1) := by decide +kernel
theorem dL_law_1293 : gd cL_law 1293 (.iadd) 1 1294 := by decide +kernel
theorem dL_law_1294 : gd cL_law 1294 (.iaload) 1 1295 := by decide +kernel
theorem dL_law_1295 : gd cL_law 1295 (.aload_n 0) 1 1296 := by decide +kernel
theorem dL_law_1296 : gd cL_law 1296 (.iload 4) 2 1298 := by decide +kernel
theorem dL_law_1298 : decode cL_law 1298 = .ok (.iconst 2, 1) ∧ 1298 + 1 = 1299 ∧ Int32.ofInt (2) = (2) := by decide +kernel
theorem dL_law_1299 : gd cL_law 1299 (.iadd) 1 1300 := by decide +kernel
theorem dL_law_1300 : gd cL_law 1300 (.iaload) 1 1301 := by decide +kernel
theorem dL_law_1301 : gd cL_law 1301 (.invokevirtual 126) 3 1304 := by decide +kernel
theorem dL_law_1304 : gd cL_law 1304 (.aload_n 2) 1 1305 := by decide +kernel
theorem dL_law_1305 : gd cL_law 1305 (.aload_n 0) 1 1306 := by decide +kernel
theorem dL_law_1306 : gd cL_law 1306 (.iload 4) 2 1308 := by decide +kernel
theorem dL_law_1308 : decode cL_law 1308 = .ok (.iconst 1, 1) ∧ 1308 + 1 = 1309 ∧ Int32.ofInt (1) = (1) := by decide +kernel
theorem dL_law_1309 : gd cL_law 1309 (.iadd) 1 1310 := by decide +kernel
theorem dL_law_1310 : gd cL_law 1310 (.iaload) 1 1311 := by decide +kernel
theorem dL_law_1311 : gd cL_law 1311 (.aload_n 0) 1 1312 := by decide +kernel
theorem dL_law_1312 : gd cL_law 1312 (.iload 4) 2 1314 := by decide +kernel
theorem dL_law_1314 : decode cL_law 1314 = .ok (.iconst 2, 1) ∧ 1314 + 1 = 1315 ∧ Int32.ofInt (2) = (2) := by decide +kernel
theorem dL_law_1315 : gd cL_law 1315 (.iadd) 1 1316 := by decide +kernel
theorem dL_law_1316 : gd cL_law 1316 (.iaload) 1 1317 := by decide +kernel
theorem dL_law_1317 : gd cL_law 1317 (.invokevirtual 129) 3 1320 := by decide +kernel
theorem dL_law_1320 : gb cL_law 1320 (.if_icmp .eq 648) (648) 1323 1968 := by decide +kernel
theorem dL_law_1323 : decode cL_law 1323 = .ok (.iconst 0, 1) ∧ 1323 + 1 = 1324 ∧ Int32.ofInt (0) = (0) := by decide +kernel
theorem dL_law_1324 : gd cL_law 1324 (.ireturn) 1 1325 := by decide +kernel
theorem dL_law_1325 : gd cL_law 1325 (.aload_n 1) 1 1326 := by decide +kernel
theorem dL_law_1326 : gd cL_law 1326 (.aload_n 0) 1 1327 := by decide +kernel
theorem dL_law_1327 : gd cL_law 1327 (.iload 4) 2 1329 := by decide +kernel
theorem dL_law_1329 : decode cL_law 1329 = .ok (.iconst 1, 1) ∧ 1329 + 1 = 1330 ∧ Int32.ofInt (1) = (1) := by decide +kernel
theorem dL_law_1330 : gd cL_law 1330 (.iadd) 1 1331 := by decide +kernel
theorem dL_law_1331 : gd cL_law 1331 (.iaload) 1 1332 := by decide +kernel
theorem dL_law_1332 : gd cL_law 1332 (.aload_n 0) 1 1333 := by decide +kernel
theorem dL_law_1333 : gd cL_law 1333 (.iload 4) 2 1335 := by decide +kernel
theorem dL_law_1335 : decode cL_law 1335 = .ok (.iconst 2, 1) ∧ 1335 + 1 = 1336 ∧ Int32.ofInt (2) = (2) := by decide +kernel
theorem dL_law_1336 : gd cL_law 1336 (.iadd) 1 1337 := by decide +kernel
theorem dL_law_1337 : gd cL_law 1337 (.iaload) 1 1338 := by decide +kernel
theorem dL_law_1338 : gd cL_law 1338 (.invokevirtual 130) 3 1341 := by decide +kernel
theorem dL_law_1341 : gd cL_law 1341 (.aload_n 2) 1 1342 := by decide +kernel
theorem dL_law_1342 : gd cL_law 1342 (.aload_n 0) 1 1343 := by decide +kernel
theorem dL_law_1343 : gd cL_law 1343 (.iload 4) 2 1345 := by decide +kernel
theorem dL_law_1345 : decode cL_law 1345 = .ok (.iconst 1, 1) ∧ 1345 + 1 = 1346 ∧ Int32.ofInt (1) = (1) := by decide +kernel
theorem dL_law_1346 : gd cL_law 1346 (.iadd) 1 1347 := by decide +kernel
theorem dL_law_1347 : gd cL_law 1347 (.iaload) 1 1348 := by decide +kernel
theorem dL_law_1348 : gd cL_law 1348 (.aload_n 0) 1 1349 := by decide +kernel
theorem dL_law_1349 : gd cL_law 1349 (.iload 4) 2 1351 := by decide +kernel
theorem dL_law_1351 : decode cL_law 1351 = .ok (.iconst 2, 1) ∧ 1351 + 1 = 1352 ∧ Int32.ofInt (2) = (2) := by decide +kernel
theorem dL_law_1352 : gd cL_law 1352 (.iadd) 1 1353 := by decide +kernel
theorem dL_law_1353 : gd cL_law 1353 (.iaload) 1 1354 := by decide +kernel
