/-! the law, instruction by instruction -/
theorem d_law_1170 : decode code 1170 = .ok (.aload_n 1, 1) := by decide +kernel
theorem d_law_1171 : decode code 1171 = .ok (.invokevirtual 160, 3) := by decide +kernel
theorem d_law_1174 : decode code 1174 = .ok (.aload_n 2, 1) := by decide +kernel
theorem d_law_1175 : decode code 1175 = .ok (.invokevirtual 163, 3) := by decide +kernel
theorem d_law_1178 : decode code 1178 = .ok (.if_icmp .eq 130, 3) := by decide +kernel
theorem d_law_1181 : decode code 1181 = .ok (.iconst 0, 1) := by decide +kernel
theorem d_law_1182 : decode code 1182 = .ok (.ireturn, 1) := by decide +kernel
theorem d_law_1183 : decode code 1183 = .ok (.aload_n 1, 1) := by decide +kernel
theorem d_law_1184 : decode code 1184 = .ok (.aload_n 0, 1) := by decide +kernel
theorem d_law_1185 : decode code 1185 = .ok (.iload 4, 2) := by decide +kernel
theorem d_law_1187 : decode code 1187 = .ok (.iconst 1, 1) := by decide +kernel
theorem d_law_1188 : decode code 1188 = .ok (.iadd, 1) := by decide +kernel
theorem d_law_1189 : decode code 1189 = .ok (.iaload, 1) := by decide +kernel
theorem d_law_1190 : decode code 1190 = .ok (.invokevirtual 164, 3) := by decide +kernel
theorem d_law_1193 : decode code 1193 = .ok (.aload_n 2, 1) := by decide +kernel
theorem d_law_1194 : decode code 1194 = .ok (.aload_n 0, 1) := by decide +kernel
theorem d_law_1195 : decode code 1195 = .ok (.iload 4, 2) := by decide +kernel
theorem d_law_1197 : decode code 1197 = .ok (.iconst 1, 1) := by decide +kernel
theorem d_law_1198 : decode code 1198 = .ok (.iadd, 1) := by decide +kernel
theorem d_law_1199 : decode code 1199 = .ok (.iaload, 1) := by decide +kernel
theorem d_law_1200 : decode code 1200 = .ok (.invokevirtual 167, 3) := by decide +kernel
theorem d_law_1203 : decode code 1203 = .ok (.if_icmp .eq 105, 3) := by decide +kernel
theorem d_law_1206 : decode code 1206 = .ok (.iconst 0, 1) := by decide +kernel
theorem d_law_1207 : decode code 1207 = .ok (.ireturn, 1) := by decide +kernel
theorem d_law_1208 : decode code 1208 = .ok (.aload_n 1, 1) := by decide +kernel
theorem d_law_1209 : decode code 1209 = .ok (.aload_n 0, 1) := by decide +kernel
theorem d_law_1210 : decode code 1210 = .ok (.iload 4, 2) := by decide +kernel
theorem d_law_1212 : decode code 1212 = .ok (.iconst 1, 1) := by decide +kernel
theorem d_law_1213 : decode code 1213 = .ok (.iadd, 1) := by decide +kernel
theorem d_law_1214 : decode code 1214 = .ok (.iaload, 1) := by decide +kernel
theorem d_law_1215 : decode code 1215 = .ok (.invokevirtual 168, 3) := by decide +kernel
theorem d_law_1218 : decode code 1218 = .ok (.aload_n 2, 1) := by decide +kernel
theorem d_law_1219 : decode code 1219 = .ok (.aload_n 0, 1) := by decide +kernel
theorem d_law_1220 : decode code 1220 = .ok (.iload 4, 2) := by decide +kernel
theorem d_law_1222 : decode code 1222 = .ok (.iconst 1, 1) := by decide +kernel
theorem d_law_1223 : decode code 1223 = .ok (.iadd, 1) := by decide +kernel
theorem d_law_1224 : decode code 1224 = .ok (.iaload, 1) := by decide +kernel
theorem d_law_1225 : decode code 1225 = .ok (.invokevirtual 171, 3) := by decide +kernel
theorem d_law_1228 : decode code 1228 = .ok (.if_icmp .eq 80, 3) := by decide +kernel
theorem d_law_1231 : decode code 1231 = .ok (.iconst 0, 1) := by decide +kernel
theorem d_law_1232 : decode code 1232 = .ok (.ireturn, 1) := by decide +kernel
theorem d_law_1233 : decode code 1233 = .ok (.aload_n 1, 1) := by decide +kernel
theorem d_law_1234 : decode code 1234 = .ok (.aload_n 0, 1) := by decide +kernel
theorem d_law_1235 : decode code 1235 = .ok (.iload 4, 2) := by decide +kernel
theorem d_law_1237 : decode code 1237 = .ok (.iconst 1, 1) := by decide +kernel
theorem d_law_1238 : decode code 1238 = .ok (.iadd, 1) := by decide +kernel
theorem d_law_1239 : decode code 1239 = .ok (.iaload, 1) := by decide +kernel
theorem d_law_1240 : decode code 1240 = .ok (.invokevirtual 172, 3) := by decide +kernel
theorem d_law_1243 : decode code 1243 = .ok (.aload_n 2, 1) := by decide +kernel
theorem d_law_1244 : decode code 1244 = .ok (.aload_n 0, 1) := by decide +kernel
theorem d_law_1245 : decode code 1245 = .ok (.iload 4, 2) := by decide +kernel
theorem d_law_1247 : decode code 1247 = .ok (.iconst 1, 1) := by decide +kernel
theorem d_law_1248 : decode code 1248 = .ok (.iadd, 1) := by decide +kernel
theorem d_law_1249 : decode code 1249 = .ok (.iaload, 1) := by decide +kernel
theorem d_law_1250 : decode code 1250 = .ok (.invokevirtual 175, 3) := by decide +kernel
theorem d_law_1253 : decode code 1253 = .ok (.if_icmp .eq 55, 3) := by decide +kernel
theorem d_law_1256 : decode code 1256 = .ok (.iconst 0, 1) := by decide +kernel
theorem d_law_1257 : decode code 1257 = .ok (.ireturn, 1) := by decide +kernel
theorem d_law_1258 : decode code 1258 = .ok (.aload_n 1, 1) := by decide +kernel
theorem d_law_1259 : decode code 1259 = .ok (.aload_n 0, 1) := by decide +kernel
theorem d_law_1260 : decode code 1260 = .ok (.iload 4, 2) := by decide +kernel
theorem d_law_1262 : decode code 1262 = .ok (.iconst 1, 1) := by decide +kernel
theorem d_law_1263 : decode code 1263 = .ok (.iadd, 1) := by decide +kernel
theorem d_law_1264 : decode code 1264 = .ok (.iaload, 1) := by decide +kernel
theorem d_law_1265 : decode code 1265 = .ok (.invokevirtual 176, 3) := by decide +kernel
theorem d_law_1268 : decode code 1268 = .ok (.aload_n 2, 1) := by decide +kernel
theorem d_law_1269 : decode code 1269 = .ok (.aload_n 0, 1) := by decide +kernel
theorem d_law_1270 : decode code 1270 = .ok (.iload 4, 2) := by decide +kernel
theorem d_law_1272 : decode code 1272 = .ok (.iconst 1, 1) := by decide +kernel
theorem d_law_1273 : decode code 1273 = .ok (.iadd, 1) := by decide +kernel
theorem d_law_1274 : decode code 1274 = .ok (.iaload, 1) := by decide +kernel
theorem d_law_1275 : decode code 1275 = .ok (.invokevirtual 179, 3) := by decide +kernel
theorem d_law_1278 : decode code 1278 = .ok (.if_icmp .eq 30, 3) := by decide +kernel
theorem d_law_1281 : decode code 1281 = .ok (.iconst 0, 1) := by decide +kernel
theorem d_law_1282 : decode code 1282 = .ok (.ireturn, 1) := by decide +kernel
theorem d_law_1283 : decode code 1283 = .ok (.aload_n 1, 1) := by decide +kernel
theorem d_law_1284 : decode code 1284 = .ok (.aload_n 0, 1) := by decide +kernel
theorem d_law_1285 : decode code 1285 = .ok (.iload 4, 2) := by decide +kernel
theorem d_law_1287 : decode code 1287 = .ok (.iconst 1, 1) := by decide +kernel
theorem d_law_1288 : decode code 1288 = .ok (.iadd, 1) := by decide +kernel
theorem d_law_1289 : decode code 1289 = .ok (.iaload, 1) := by decide +kernel
theorem d_law_1290 : decode code 1290 = .ok (.invokevirtual 180, 3) := by decide +kernel
theorem d_law_1293 : decode code 1293 = .ok (.aload_n 2, 1) := by decide +kernel
theorem d_law_1294 : decode code 1294 = .ok (.aload_n 0, 1) := by decide +kernel
theorem d_law_1295 : decode code 1295 = .ok (.iload 4, 2) := by decide +kernel
theorem d_law_1297 : decode code 1297 = .ok (.iconst 1, 1) := by decide +kernel
theorem d_law_1298 : decode code 1298 = .ok (.iadd, 1) := by decide +kernel
theorem d_law_1299 : decode code 1299 = .ok (.iaload, 1) := by decide +kernel
theorem d_law_1300 : decode code 1300 = .ok (.invokevirtual 183, 3) := by decide +kernel
theorem d_law_1303 : decode code 1303 = .ok (.if_icmp .eq 5, 3) := by decide +kernel
theorem d_law_1306 : decode code 1306 = .ok (.iconst 0, 1) := by decide +kernel
theorem d_law_1307 : decode code 1307 = .ok (.ireturn, 1) := by decide +kernel
theorem d_law_1308 : decode code 1308 = .ok (.iinc 4 5, 3) := by decide +kernel
theorem d_law_1311 : decode code 1311 = .ok (.goto (-1288), 3) := by decide +kernel
theorem d_law_1314 : decode code 1314 = .ok (.iconst 1, 1) := by decide +kernel
theorem d_law_1315 : decode code 1315 = .ok (.ireturn, 1) := by decide +kernel
