theorem hc_L_law_1184 : ((bL cL_law).drop 1184).take 18 = [29, 4, 96, 46, 42, 29, 5, 96, 46, 42, 29, 6, 96, 46, 182, 0, 138, 87] := by decide +kernel
theorem dL_law_1184 : decode cL_law 1184 = .ok (.iload_n 3, 1) := o_29 (u1_0 hc_L_law_1184 rfl) rfl
theorem dL_law_1185 : decode cL_law 1185 = .ok (.iconst 1, 1) := o_4 (u1_1 hc_L_law_1184 rfl) rfl
theorem dL_law_1186 : decode cL_law 1186 = .ok (.iadd, 1) := o_96 (u1_2 hc_L_law_1184 rfl) rfl
theorem dL_law_1187 : decode cL_law 1187 = .ok (.iaload, 1) := o_46 (u1_3 hc_L_law_1184 rfl) rfl
theorem dL_law_1188 : decode cL_law 1188 = .ok (.aload_n 0, 1) := o_42 (u1_4 hc_L_law_1184 rfl) rfl
theorem dL_law_1189 : decode cL_law 1189 = .ok (.iload_n 3, 1) := o_29 (u1_5 hc_L_law_1184 rfl) rfl
theorem dL_law_1190 : decode cL_law 1190 = .ok (.iconst 2, 1) := o_5 (u1_6 hc_L_law_1184 rfl) rfl
theorem dL_law_1191 : decode cL_law 1191 = .ok (.iadd, 1) := o_96 (u1_7 hc_L_law_1184 rfl) rfl
theorem dL_law_1192 : decode cL_law 1192 = .ok (.iaload, 1) := o_46 (u1_8 hc_L_law_1184 rfl) rfl
theorem dL_law_1193 : decode cL_law 1193 = .ok (.aload_n 0, 1) := o_42 (u1_9 hc_L_law_1184 rfl) rfl
theorem dL_law_1194 : decode cL_law 1194 = .ok (.iload_n 3, 1) := o_29 (u1_10 hc_L_law_1184 rfl) rfl
theorem dL_law_1195 : decode cL_law 1195 = .ok (.iconst 3, 1) := o_6 (u1_11 hc_L_law_1184 rfl) rfl
theorem dL_law_1196 : decode cL_law 1196 = .ok (.iadd, 1) := o_96 (u1_12 hc_L_law_1184 rfl) rfl
theorem dL_law_1197 : decode cL_law 1197 = .ok (.iaload, 1) := o_46 (u1_13 hc_L_law_1184 rfl) rfl
theorem dL_law_1198 : decode cL_law 1198 = .ok (.invokevirtual 138, 3) := o_182 (u1_14 hc_L_law_1184 rfl) (u2_d (u1_15 hc_L_law_1184 rfl) (u1_16 hc_L_law_1184 rfl) rfl) rfl
theorem hc_L_law_1200 : ((bL cL_law).drop 1200).take 18 = [138, 87, 167, 1, 3, 43, 42, 29, 4, 96, 46, 42, 29, 5, 96, 46, 42, 29] := by decide +kernel
theorem dL_law_1201 : decode cL_law 1201 = .ok (.pop, 1) := o_87 (u1_1 hc_L_law_1200 rfl) rfl
theorem dL_law_1202 : decode cL_law 1202 = .ok (.goto 259, 3) := o_167 (u1_2 hc_L_law_1200 rfl) (s2_d (u2_d (u1_3 hc_L_law_1200 rfl) (u1_4 hc_L_law_1200 rfl) rfl) rfl) rfl
theorem dL_law_1205 : decode cL_law 1205 = .ok (.aload_n 1, 1) := o_43 (u1_5 hc_L_law_1200 rfl) rfl
theorem dL_law_1206 : decode cL_law 1206 = .ok (.aload_n 0, 1) := o_42 (u1_6 hc_L_law_1200 rfl) rfl
theorem dL_law_1207 : decode cL_law 1207 = .ok (.iload_n 3, 1) := o_29 (u1_7 hc_L_law_1200 rfl) rfl
theorem dL_law_1208 : decode cL_law 1208 = .ok (.iconst 1, 1) := o_4 (u1_8 hc_L_law_1200 rfl) rfl
theorem dL_law_1209 : decode cL_law 1209 = .ok (.iadd, 1) := o_96 (u1_9 hc_L_law_1200 rfl) rfl
theorem dL_law_1210 : decode cL_law 1210 = .ok (.iaload, 1) := o_46 (u1_10 hc_L_law_1200 rfl) rfl
theorem dL_law_1211 : decode cL_law 1211 = .ok (.aload_n 0, 1) := o_42 (u1_11 hc_L_law_1200 rfl) rfl
theorem dL_law_1212 : decode cL_law 1212 = .ok (.iload_n 3, 1) := o_29 (u1_12 hc_L_law_1200 rfl) rfl
theorem dL_law_1213 : decode cL_law 1213 = .ok (.iconst 2, 1) := o_5 (u1_13 hc_L_law_1200 rfl) rfl
theorem dL_law_1214 : decode cL_law 1214 = .ok (.iadd, 1) := o_96 (u1_14 hc_L_law_1200 rfl) rfl
theorem dL_law_1215 : decode cL_law 1215 = .ok (.iaload, 1) := o_46 (u1_15 hc_L_law_1200 rfl) rfl
theorem hc_L_law_1216 : ((bL cL_law).drop 1216).take 18 = [42, 29, 6, 96, 46, 42, 29, 7, 96, 46, 42, 29, 8, 96, 46, 42, 29, 16] := by decide +kernel
theorem dL_law_1216 : decode cL_law 1216 = .ok (.aload_n 0, 1) := o_42 (u1_0 hc_L_law_1216 rfl) rfl
theorem dL_law_1217 : decode cL_law 1217 = .ok (.iload_n 3, 1) := o_29 (u1_1 hc_L_law_1216 rfl) rfl
theorem dL_law_1218 : decode cL_law 1218 = .ok (.iconst 3, 1) := o_6 (u1_2 hc_L_law_1216 rfl) rfl
theorem dL_law_1219 : decode cL_law 1219 = .ok (.iadd, 1) := o_96 (u1_3 hc_L_law_1216 rfl) rfl
theorem dL_law_1220 : decode cL_law 1220 = .ok (.iaload, 1) := o_46 (u1_4 hc_L_law_1216 rfl) rfl
theorem dL_law_1221 : decode cL_law 1221 = .ok (.aload_n 0, 1) := o_42 (u1_5 hc_L_law_1216 rfl) rfl
theorem dL_law_1222 : decode cL_law 1222 = .ok (.iload_n 3, 1) := o_29 (u1_6 hc_L_law_1216 rfl) rfl
theorem dL_law_1223 : decode cL_law 1223 = .ok (.iconst 4, 1) := o_7 (u1_7 hc_L_law_1216 rfl) rfl
theorem dL_law_1224 : decode cL_law 1224 = .ok (.iadd, 1) := o_96 (u1_8 hc_L_law_1216 rfl) rfl
theorem dL_law_1225 : decode cL_law 1225 = .ok (.iaload, 1) := o_46 (u1_9 hc_L_law_1216 rfl) rfl
theorem dL_law_1226 : decode cL_law 1226 = .ok (.aload_n 0, 1) := o_42 (u1_10 hc_L_law_1216 rfl) rfl
theorem dL_law_1227 : decode cL_law 1227 = .ok (.iload_n 3, 1) := o_29 (u1_11 hc_L_law_1216 rfl) rfl
theorem dL_law_1228 : decode cL_law 1228 = .ok (.iconst 5, 1) := o_8 (u1_12 hc_L_law_1216 rfl) rfl
theorem dL_law_1229 : decode cL_law 1229 = .ok (.iadd, 1) := o_96 (u1_13 hc_L_law_1216 rfl) rfl
theorem dL_law_1230 : decode cL_law 1230 = .ok (.iaload, 1) := o_46 (u1_14 hc_L_law_1216 rfl) rfl
theorem dL_law_1231 : decode cL_law 1231 = .ok (.aload_n 0, 1) := o_42 (u1_15 hc_L_law_1216 rfl) rfl
theorem hc_L_law_1232 : ((bL cL_law).drop 1232).take 18 = [29, 16, 6, 96, 46, 182, 0, 139, 87, 44, 42, 29, 4, 96, 46, 42, 29, 5] := by decide +kernel
theorem dL_law_1232 : decode cL_law 1232 = .ok (.iload_n 3, 1) := o_29 (u1_0 hc_L_law_1232 rfl) rfl
theorem dL_law_1233 : decode cL_law 1233 = .ok (.bipush 6, 2) := o_16 (u1_1 hc_L_law_1232 rfl) (s1_d (u1_2 hc_L_law_1232 rfl) rfl) rfl
theorem dL_law_1235 : decode cL_law 1235 = .ok (.iadd, 1) := o_96 (u1_3 hc_L_law_1232 rfl) rfl
theorem dL_law_1236 : decode cL_law 1236 = .ok (.iaload, 1) := o_46 (u1_4 hc_L_law_1232 rfl) rfl
theorem dL_law_1237 : decode cL_law 1237 = .ok (.invokevirtual 139, 3) := o_182 (u1_5 hc_L_law_1232 rfl) (u2_d (u1_6 hc_L_law_1232 rfl) (u1_7 hc_L_law_1232 rfl) rfl) rfl
theorem dL_law_1240 : decode cL_law 1240 = .ok (.pop, 1) := o_87 (u1_8 hc_L_law_1232 rfl) rfl
theorem dL_law_1241 : decode cL_law 1241 = .ok (.aload_n 2, 1) := o_44 (u1_9 hc_L_law_1232 rfl) rfl
theorem dL_law_1242 : decode cL_law 1242 = .ok (.aload_n 0, 1) := o_42 (u1_10 hc_L_law_1232 rfl) rfl
theorem dL_law_1243 : decode cL_law 1243 = .ok (.iload_n 3, 1) := o_29 (u1_11 hc_L_law_1232 rfl) rfl
theorem dL_law_1244 : decode cL_law 1244 = .ok (.iconst 1, 1) := o_4 (u1_12 hc_L_law_1232 rfl) rfl
theorem dL_law_1245 : decode cL_law 1245 = .ok (.iadd, 1) := o_96 (u1_13 hc_L_law_1232 rfl) rfl
theorem dL_law_1246 : decode cL_law 1246 = .ok (.iaload, 1) := o_46 (u1_14 hc_L_law_1232 rfl) rfl
theorem dL_law_1247 : decode cL_law 1247 = .ok (.aload_n 0, 1) := o_42 (u1_15 hc_L_law_1232 rfl) rfl
theorem hc_L_law_1248 : ((bL cL_law).drop 1248).take 18 = [29, 5, 96, 46, 42, 29, 6, 96, 46, 42, 29, 7, 96, 46, 42, 29, 8, 96] := by decide +kernel
theorem dL_law_1248 : decode cL_law 1248 = .ok (.iload_n 3, 1) := o_29 (u1_0 hc_L_law_1248 rfl) rfl
theorem dL_law_1249 : decode cL_law 1249 = .ok (.iconst 2, 1) := o_5 (u1_1 hc_L_law_1248 rfl) rfl
theorem dL_law_1250 : decode cL_law 1250 = .ok (.iadd, 1) := o_96 (u1_2 hc_L_law_1248 rfl) rfl
theorem dL_law_1251 : decode cL_law 1251 = .ok (.iaload, 1) := o_46 (u1_3 hc_L_law_1248 rfl) rfl
theorem dL_law_1252 : decode cL_law 1252 = .ok (.aload_n 0, 1) := o_42 (u1_4 hc_L_law_1248 rfl) rfl
theorem dL_law_1253 : decode cL_law 1253 = .ok (.iload_n 3, 1) := o_29 (u1_5 hc_L_law_1248 rfl) rfl
theorem dL_law_1254 : decode cL_law 1254 = .ok (.iconst 3, 1) := o_6 (u1_6 hc_L_law_1248 rfl) rfl
theorem dL_law_1255 : decode cL_law 1255 = .ok (.iadd, 1) := o_96 (u1_7 hc_L_law_1248 rfl) rfl
theorem dL_law_1256 : decode cL_law 1256 = .ok (.iaload, 1) := o_46 (u1_8 hc_L_law_1248 rfl) rfl
theorem dL_law_1257 : decode cL_law 1257 = .ok (.aload_n 0, 1) := o_42 (u1_9 hc_L_law_1248 rfl) rfl
theorem dL_law_1258 : decode cL_law 1258 = .ok (.iload_n 3, 1) := o_29 (u1_10 hc_L_law_1248 rfl) rfl
theorem dL_law_1259 : decode cL_law 1259 = .ok (.iconst 4, 1) := o_7 (u1_11 hc_L_law_1248 rfl) rfl
theorem dL_law_1260 : decode cL_law 1260 = .ok (.iadd, 1) := o_96 (u1_12 hc_L_law_1248 rfl) rfl
theorem dL_law_1261 : decode cL_law 1261 = .ok (.iaload, 1) := o_46 (u1_13 hc_L_law_1248 rfl) rfl
theorem dL_law_1262 : decode cL_law 1262 = .ok (.aload_n 0, 1) := o_42 (u1_14 hc_L_law_1248 rfl) rfl
theorem dL_law_1263 : decode cL_law 1263 = .ok (.iload_n 3, 1) := o_29 (u1_15 hc_L_law_1248 rfl) rfl
theorem hc_L_law_1264 : ((bL cL_law).drop 1264).take 18 = [8, 96, 46, 42, 29, 16, 6, 96, 46, 182, 0, 143, 87, 167, 0, 184, 43, 42] := by decide +kernel
theorem dL_law_1264 : decode cL_law 1264 = .ok (.iconst 5, 1) := o_8 (u1_0 hc_L_law_1264 rfl) rfl
theorem dL_law_1265 : decode cL_law 1265 = .ok (.iadd, 1) := o_96 (u1_1 hc_L_law_1264 rfl) rfl
theorem dL_law_1266 : decode cL_law 1266 = .ok (.iaload, 1) := o_46 (u1_2 hc_L_law_1264 rfl) rfl
theorem dL_law_1267 : decode cL_law 1267 = .ok (.aload_n 0, 1) := o_42 (u1_3 hc_L_law_1264 rfl) rfl
theorem dL_law_1268 : decode cL_law 1268 = .ok (.iload_n 3, 1) := o_29 (u1_4 hc_L_law_1264 rfl) rfl
theorem dL_law_1269 : decode cL_law 1269 = .ok (.bipush 6, 2) := o_16 (u1_5 hc_L_law_1264 rfl) (s1_d (u1_6 hc_L_law_1264 rfl) rfl) rfl
theorem dL_law_1271 : decode cL_law 1271 = .ok (.iadd, 1) := o_96 (u1_7 hc_L_law_1264 rfl) rfl
theorem dL_law_1272 : decode cL_law 1272 = .ok (.iaload, 1) := o_46 (u1_8 hc_L_law_1264 rfl) rfl
theorem dL_law_1273 : decode cL_law 1273 = .ok (.invokevirtual 143, 3) := o_182 (u1_9 hc_L_law_1264 rfl) (u2_d (u1_10 hc_L_law_1264 rfl) (u1_11 hc_L_law_1264 rfl) rfl) rfl
theorem dL_law_1276 : decode cL_law 1276 = .ok (.pop, 1) := o_87 (u1_12 hc_L_law_1264 rfl) rfl
theorem dL_law_1277 : decode cL_law 1277 = .ok (.goto 184, 3) := o_167 (u1_13 hc_L_law_1264 rfl) (s2_d (u2_d (u1_14 hc_L_law_1264 rfl) (u1_15 hc_L_law_1264 rfl) rfl) rfl) rfl
theorem hc_L_law_1280 : ((bL cL_law).drop 1280).take 18 = [43, 42, 29, 4, 96, 46, 42, 29, 5, 96, 46, 182, 0, 144, 87, 44, 42, 29] := by decide +kernel
theorem dL_law_1280 : decode cL_law 1280 = .ok (.aload_n 1, 1) := o_43 (u1_0 hc_L_law_1280 rfl) rfl
theorem dL_law_1281 : decode cL_law 1281 = .ok (.aload_n 0, 1) := o_42 (u1_1 hc_L_law_1280 rfl) rfl
theorem dL_law_1282 : decode cL_law 1282 = .ok (.iload_n 3, 1) := o_29 (u1_2 hc_L_law_1280 rfl) rfl
theorem dL_law_1283 : decode cL_law 1283 = .ok (.iconst 1, 1) := o_4 (u1_3 hc_L_law_1280 rfl) rfl
theorem dL_law_1284 : decode cL_law 1284 = .ok (.iadd, 1) := o_96 (u1_4 hc_L_law_1280 rfl) rfl
theorem dL_law_1285 : decode cL_law 1285 = .ok (.iaload, 1) := o_46 (u1_5 hc_L_law_1280 rfl) rfl
theorem dL_law_1286 : decode cL_law 1286 = .ok (.aload_n 0, 1) := o_42 (u1_6 hc_L_law_1280 rfl) rfl
theorem dL_law_1287 : decode cL_law 1287 = .ok (.iload_n 3, 1) := o_29 (u1_7 hc_L_law_1280 rfl) rfl
theorem dL_law_1288 : decode cL_law 1288 = .ok (.iconst 2, 1) := o_5 (u1_8 hc_L_law_1280 rfl) rfl
theorem dL_law_1289 : decode cL_law 1289 = .ok (.iadd, 1) := o_96 (u1_9 hc_L_law_1280 rfl) rfl
theorem dL_law_1290 : decode cL_law 1290 = .ok (.iaload, 1) := o_46 (u1_10 hc_L_law_1280 rfl) rfl
theorem dL_law_1291 : decode cL_law 1291 = .ok (.invokevirtual 144, 3) := o_182 (u1_11 hc_L_law_1280 rfl) (u2_d (u1_12 hc_L_law_1280 rfl) (u1_13 hc_L_law_1280 rfl) rfl) rfl
theorem dL_law_1294 : decode cL_law 1294 = .ok (.pop, 1) := o_87 (u1_14 hc_L_law_1280 rfl) rfl
theorem dL_law_1295 : decode cL_law 1295 = .ok (.aload_n 2, 1) := o_44 (u1_15 hc_L_law_1280 rfl) rfl
theorem hc_L_law_1296 : ((bL cL_law).drop 1296).take 18 = [42, 29, 4, 96, 46, 42, 29, 5, 96, 46, 182, 0, 147, 87, 167, 0, 151, 43] := by decide +kernel
theorem dL_law_1296 : decode cL_law 1296 = .ok (.aload_n 0, 1) := o_42 (u1_0 hc_L_law_1296 rfl) rfl
theorem dL_law_1297 : decode cL_law 1297 = .ok (.iload_n 3, 1) := o_29 (u1_1 hc_L_law_1296 rfl) rfl
theorem dL_law_1298 : decode cL_law 1298 = .ok (.iconst 1, 1) := o_4 (u1_2 hc_L_law_1296 rfl) rfl
theorem dL_law_1299 : decode cL_law 1299 = .ok (.iadd, 1) := o_96 (u1_3 hc_L_law_1296 rfl) rfl
theorem dL_law_1300 : decode cL_law 1300 = .ok (.iaload, 1) := o_46 (u1_4 hc_L_law_1296 rfl) rfl
theorem dL_law_1301 : decode cL_law 1301 = .ok (.aload_n 0, 1) := o_42 (u1_5 hc_L_law_1296 rfl) rfl
theorem dL_law_1302 : decode cL_law 1302 = .ok (.iload_n 3, 1) := o_29 (u1_6 hc_L_law_1296 rfl) rfl
theorem dL_law_1303 : decode cL_law 1303 = .ok (.iconst 2, 1) := o_5 (u1_7 hc_L_law_1296 rfl) rfl
theorem dL_law_1304 : decode cL_law 1304 = .ok (.iadd, 1) := o_96 (u1_8 hc_L_law_1296 rfl) rfl
theorem dL_law_1305 : decode cL_law 1305 = .ok (.iaload, 1) := o_46 (u1_9 hc_L_law_1296 rfl) rfl
theorem dL_law_1306 : decode cL_law 1306 = .ok (.invokevirtual 147, 3) := o_182 (u1_10 hc_L_law_1296 rfl) (u2_d (u1_11 hc_L_law_1296 rfl) (u1_12 hc_L_law_1296 rfl) rfl) rfl
theorem dL_law_1309 : decode cL_law 1309 = .ok (.pop, 1) := o_87 (u1_13 hc_L_law_1296 rfl) rfl
theorem dL_law_1310 : decode cL_law 1310 = .ok (.goto 151, 3) := o_167 (u1_14 hc_L_law_1296 rfl) (s2_d (u2_d (u1_15 hc_L_law_1296 rfl) (u1_16 hc_L_law_1296 rfl) rfl) rfl) rfl
theorem hc_L_law_1312 : ((bL cL_law).drop 1312).take 18 = [151, 43, 42, 29, 4, 96, 46, 42, 29, 5, 96, 46, 42, 29, 6, 96, 46, 182] := by decide +kernel
theorem dL_law_1313 : decode cL_law 1313 = .ok (.aload_n 1, 1) := o_43 (u1_1 hc_L_law_1312 rfl) rfl
theorem dL_law_1314 : decode cL_law 1314 = .ok (.aload_n 0, 1) := o_42 (u1_2 hc_L_law_1312 rfl) rfl
theorem dL_law_1315 : decode cL_law 1315 = .ok (.iload_n 3, 1) := o_29 (u1_3 hc_L_law_1312 rfl) rfl
theorem dL_law_1316 : decode cL_law 1316 = .ok (.iconst 1, 1) := o_4 (u1_4 hc_L_law_1312 rfl) rfl
theorem dL_law_1317 : decode cL_law 1317 = .ok (.iadd, 1) := o_96 (u1_5 hc_L_law_1312 rfl) rfl
theorem dL_law_1318 : decode cL_law 1318 = .ok (.iaload, 1) := o_46 (u1_6 hc_L_law_1312 rfl) rfl
theorem dL_law_1319 : decode cL_law 1319 = .ok (.aload_n 0, 1) := o_42 (u1_7 hc_L_law_1312 rfl) rfl
theorem dL_law_1320 : decode cL_law 1320 = .ok (.iload_n 3, 1) := o_29 (u1_8 hc_L_law_1312 rfl) rfl
theorem dL_law_1321 : decode cL_law 1321 = .ok (.iconst 2, 1) := o_5 (u1_9 hc_L_law_1312 rfl) rfl
theorem dL_law_1322 : decode cL_law 1322 = .ok (.iadd, 1) := o_96 (u1_10 hc_L_law_1312 rfl) rfl
theorem dL_law_1323 : decode cL_law 1323 = .ok (.iaload, 1) := o_46 (u1_11 hc_L_law_1312 rfl) rfl
theorem dL_law_1324 : decode cL_law 1324 = .ok (.aload_n 0, 1) := o_42 (u1_12 hc_L_law_1312 rfl) rfl
theorem dL_law_1325 : decode cL_law 1325 = .ok (.iload_n 3, 1) := o_29 (u1_13 hc_L_law_1312 rfl) rfl
theorem dL_law_1326 : decode cL_law 1326 = .ok (.iconst 3, 1) := o_6 (u1_14 hc_L_law_1312 rfl) rfl
theorem dL_law_1327 : decode cL_law 1327 = .ok (.iadd, 1) := o_96 (u1_15 hc_L_law_1312 rfl) rfl
theorem hc_L_law_1328 : ((bL cL_law).drop 1328).take 18 = [46, 182, 0, 148, 87, 44, 42, 29, 4, 96, 46, 42, 29, 5, 96, 46, 42, 29] := by decide +kernel
theorem dL_law_1328 : decode cL_law 1328 = .ok (.iaload, 1) := o_46 (u1_0 hc_L_law_1328 rfl) rfl
theorem dL_law_1329 : decode cL_law 1329 = .ok (.invokevirtual 148, 3) := o_182 (u1_1 hc_L_law_1328 rfl) (u2_d (u1_2 hc_L_law_1328 rfl) (u1_3 hc_L_law_1328 rfl) rfl) rfl
theorem dL_law_1332 : decode cL_law 1332 = .ok (.pop, 1) := o_87 (u1_4 hc_L_law_1328 rfl) rfl
theorem dL_law_1333 : decode cL_law 1333 = .ok (.aload_n 2, 1) := o_44 (u1_5 hc_L_law_1328 rfl) rfl
theorem dL_law_1334 : decode cL_law 1334 = .ok (.aload_n 0, 1) := o_42 (u1_6 hc_L_law_1328 rfl) rfl
theorem dL_law_1335 : decode cL_law 1335 = .ok (.iload_n 3, 1) := o_29 (u1_7 hc_L_law_1328 rfl) rfl
theorem dL_law_1336 : decode cL_law 1336 = .ok (.iconst 1, 1) := o_4 (u1_8 hc_L_law_1328 rfl) rfl
theorem dL_law_1337 : decode cL_law 1337 = .ok (.iadd, 1) := o_96 (u1_9 hc_L_law_1328 rfl) rfl
theorem dL_law_1338 : decode cL_law 1338 = .ok (.iaload, 1) := o_46 (u1_10 hc_L_law_1328 rfl) rfl
theorem dL_law_1339 : decode cL_law 1339 = .ok (.aload_n 0, 1) := o_42 (u1_11 hc_L_law_1328 rfl) rfl
theorem dL_law_1340 : decode cL_law 1340 = .ok (.iload_n 3, 1) := o_29 (u1_12 hc_L_law_1328 rfl) rfl
theorem dL_law_1341 : decode cL_law 1341 = .ok (.iconst 2, 1) := o_5 (u1_13 hc_L_law_1328 rfl) rfl
theorem dL_law_1342 : decode cL_law 1342 = .ok (.iadd, 1) := o_96 (u1_14 hc_L_law_1328 rfl) rfl
theorem dL_law_1343 : decode cL_law 1343 = .ok (.iaload, 1) := o_46 (u1_15 hc_L_law_1328 rfl) rfl
theorem hc_L_law_1344 : ((bL cL_law).drop 1344).take 18 = [42, 29, 6, 96, 46, 182, 0, 151, 87, 167, 0, 108, 43, 42, 29, 4, 96, 46] := by decide +kernel
theorem dL_law_1344 : decode cL_law 1344 = .ok (.aload_n 0, 1) := o_42 (u1_0 hc_L_law_1344 rfl) rfl
theorem dL_law_1345 : decode cL_law 1345 = .ok (.iload_n 3, 1) := o_29 (u1_1 hc_L_law_1344 rfl) rfl
theorem dL_law_1346 : decode cL_law 1346 = .ok (.iconst 3, 1) := o_6 (u1_2 hc_L_law_1344 rfl) rfl
theorem dL_law_1347 : decode cL_law 1347 = .ok (.iadd, 1) := o_96 (u1_3 hc_L_law_1344 rfl) rfl
theorem dL_law_1348 : decode cL_law 1348 = .ok (.iaload, 1) := o_46 (u1_4 hc_L_law_1344 rfl) rfl
theorem dL_law_1349 : decode cL_law 1349 = .ok (.invokevirtual 151, 3) := o_182 (u1_5 hc_L_law_1344 rfl) (u2_d (u1_6 hc_L_law_1344 rfl) (u1_7 hc_L_law_1344 rfl) rfl) rfl
theorem dL_law_1352 : decode cL_law 1352 = .ok (.pop, 1) := o_87 (u1_8 hc_L_law_1344 rfl) rfl
theorem dL_law_1353 : decode cL_law 1353 = .ok (.goto 108, 3) := o_167 (u1_9 hc_L_law_1344 rfl) (s2_d (u2_d (u1_10 hc_L_law_1344 rfl) (u1_11 hc_L_law_1344 rfl) rfl) rfl) rfl
theorem dL_law_1356 : decode cL_law 1356 = .ok (.aload_n 1, 1) := o_43 (u1_12 hc_L_law_1344 rfl) rfl
theorem dL_law_1357 : decode cL_law 1357 = .ok (.aload_n 0, 1) := o_42 (u1_13 hc_L_law_1344 rfl) rfl
theorem dL_law_1358 : decode cL_law 1358 = .ok (.iload_n 3, 1) := o_29 (u1_14 hc_L_law_1344 rfl) rfl
theorem dL_law_1359 : decode cL_law 1359 = .ok (.iconst 1, 1) := o_4 (u1_15 hc_L_law_1344 rfl) rfl
theorem hc_L_law_1360 : ((bL cL_law).drop 1360).take 18 = [96, 46, 42, 29, 5, 96, 46, 182, 0, 152, 87, 44, 42, 29, 4, 96, 46, 42] := by decide +kernel
theorem dL_law_1360 : decode cL_law 1360 = .ok (.iadd, 1) := o_96 (u1_0 hc_L_law_1360 rfl) rfl
theorem dL_law_1361 : decode cL_law 1361 = .ok (.iaload, 1) := o_46 (u1_1 hc_L_law_1360 rfl) rfl
theorem dL_law_1362 : decode cL_law 1362 = .ok (.aload_n 0, 1) := o_42 (u1_2 hc_L_law_1360 rfl) rfl
theorem dL_law_1363 : decode cL_law 1363 = .ok (.iload_n 3, 1) := o_29 (u1_3 hc_L_law_1360 rfl) rfl
theorem dL_law_1364 : decode cL_law 1364 = .ok (.iconst 2, 1) := o_5 (u1_4 hc_L_law_1360 rfl) rfl
theorem dL_law_1365 : decode cL_law 1365 = .ok (.iadd, 1) := o_96 (u1_5 hc_L_law_1360 rfl) rfl
theorem dL_law_1366 : decode cL_law 1366 = .ok (.iaload, 1) := o_46 (u1_6 hc_L_law_1360 rfl) rfl
theorem dL_law_1367 : decode cL_law 1367 = .ok (.invokevirtual 152, 3) := o_182 (u1_7 hc_L_law_1360 rfl) (u2_d (u1_8 hc_L_law_1360 rfl) (u1_9 hc_L_law_1360 rfl) rfl) rfl
theorem dL_law_1370 : decode cL_law 1370 = .ok (.pop, 1) := o_87 (u1_10 hc_L_law_1360 rfl) rfl
theorem dL_law_1371 : decode cL_law 1371 = .ok (.aload_n 2, 1) := o_44 (u1_11 hc_L_law_1360 rfl) rfl
theorem dL_law_1372 : decode cL_law 1372 = .ok (.aload_n 0, 1) := o_42 (u1_12 hc_L_law_1360 rfl) rfl
theorem dL_law_1373 : decode cL_law 1373 = .ok (.iload_n 3, 1) := o_29 (u1_13 hc_L_law_1360 rfl) rfl
theorem dL_law_1374 : decode cL_law 1374 = .ok (.iconst 1, 1) := o_4 (u1_14 hc_L_law_1360 rfl) rfl
theorem dL_law_1375 : decode cL_law 1375 = .ok (.iadd, 1) := o_96 (u1_15 hc_L_law_1360 rfl) rfl
theorem hc_L_law_1376 : ((bL cL_law).drop 1376).take 18 = [46, 42, 29, 5, 96, 46, 182, 0, 155, 87, 167, 0, 75, 43, 42, 29, 4, 96] := by decide +kernel
theorem dL_law_1376 : decode cL_law 1376 = .ok (.iaload, 1) := o_46 (u1_0 hc_L_law_1376 rfl) rfl
theorem dL_law_1377 : decode cL_law 1377 = .ok (.aload_n 0, 1) := o_42 (u1_1 hc_L_law_1376 rfl) rfl
theorem dL_law_1378 : decode cL_law 1378 = .ok (.iload_n 3, 1) := o_29 (u1_2 hc_L_law_1376 rfl) rfl
theorem dL_law_1379 : decode cL_law 1379 = .ok (.iconst 2, 1) := o_5 (u1_3 hc_L_law_1376 rfl) rfl
theorem dL_law_1380 : decode cL_law 1380 = .ok (.iadd, 1) := o_96 (u1_4 hc_L_law_1376 rfl) rfl
theorem dL_law_1381 : decode cL_law 1381 = .ok (.iaload, 1) := o_46 (u1_5 hc_L_law_1376 rfl) rfl
theorem dL_law_1382 : decode cL_law 1382 = .ok (.invokevirtual 155, 3) := o_182 (u1_6 hc_L_law_1376 rfl) (u2_d (u1_7 hc_L_law_1376 rfl) (u1_8 hc_L_law_1376 rfl) rfl) rfl
theorem dL_law_1385 : decode cL_law 1385 = .ok (.pop, 1) := o_87 (u1_9 hc_L_law_1376 rfl) rfl
theorem dL_law_1386 : decode cL_law 1386 = .ok (.goto 75, 3) := o_167 (u1_10 hc_L_law_1376 rfl) (s2_d (u2_d (u1_11 hc_L_law_1376 rfl) (u1_12 hc_L_law_1376 rfl) rfl) rfl) rfl
theorem dL_law_1389 : decode cL_law 1389 = .ok (.aload_n 1, 1) := o_43 (u1_13 hc_L_law_1376 rfl) rfl
theorem dL_law_1390 : decode cL_law 1390 = .ok (.aload_n 0, 1) := o_42 (u1_14 hc_L_law_1376 rfl) rfl
theorem dL_law_1391 : decode cL_law 1391 = .ok (.iload_n 3, 1) := o_29 (u1_15 hc_L_law_1376 rfl) rfl
theorem hc_L_law_1392 : ((bL cL_law).drop 1392).take 18 = [4, 96, 46, 182, 0, 156, 87, 44, 42, 29, 4, 96, 46, 182, 0, 159, 87, 167] := by decide +kernel
theorem dL_law_1392 : decode cL_law 1392 = .ok (.iconst 1, 1) := o_4 (u1_0 hc_L_law_1392 rfl) rfl
theorem dL_law_1393 : decode cL_law 1393 = .ok (.iadd, 1) := o_96 (u1_1 hc_L_law_1392 rfl) rfl
theorem dL_law_1394 : decode cL_law 1394 = .ok (.iaload, 1) := o_46 (u1_2 hc_L_law_1392 rfl) rfl
theorem dL_law_1395 : decode cL_law 1395 = .ok (.invokevirtual 156, 3) := o_182 (u1_3 hc_L_law_1392 rfl) (u2_d (u1_4 hc_L_law_1392 rfl) (u1_5 hc_L_law_1392 rfl) rfl) rfl
theorem dL_law_1398 : decode cL_law 1398 = .ok (.pop, 1) := o_87 (u1_6 hc_L_law_1392 rfl) rfl
theorem dL_law_1399 : decode cL_law 1399 = .ok (.aload_n 2, 1) := o_44 (u1_7 hc_L_law_1392 rfl) rfl
theorem dL_law_1400 : decode cL_law 1400 = .ok (.aload_n 0, 1) := o_42 (u1_8 hc_L_law_1392 rfl) rfl
theorem dL_law_1401 : decode cL_law 1401 = .ok (.iload_n 3, 1) := o_29 (u1_9 hc_L_law_1392 rfl) rfl
theorem dL_law_1402 : decode cL_law 1402 = .ok (.iconst 1, 1) := o_4 (u1_10 hc_L_law_1392 rfl) rfl
theorem dL_law_1403 : decode cL_law 1403 = .ok (.iadd, 1) := o_96 (u1_11 hc_L_law_1392 rfl) rfl
theorem dL_law_1404 : decode cL_law 1404 = .ok (.iaload, 1) := o_46 (u1_12 hc_L_law_1392 rfl) rfl
theorem dL_law_1405 : decode cL_law 1405 = .ok (.invokevirtual 159, 3) := o_182 (u1_13 hc_L_law_1392 rfl) (u2_d (u1_14 hc_L_law_1392 rfl) (u1_15 hc_L_law_1392 rfl) rfl) rfl
theorem hc_L_law_1408 : ((bL cL_law).drop 1408).take 18 = [87, 167, 0, 52, 43, 182, 0, 160, 87, 44, 182, 0, 163, 87, 167, 0, 39, 43] := by decide +kernel
theorem dL_law_1408 : decode cL_law 1408 = .ok (.pop, 1) := o_87 (u1_0 hc_L_law_1408 rfl) rfl
theorem dL_law_1409 : decode cL_law 1409 = .ok (.goto 52, 3) := o_167 (u1_1 hc_L_law_1408 rfl) (s2_d (u2_d (u1_2 hc_L_law_1408 rfl) (u1_3 hc_L_law_1408 rfl) rfl) rfl) rfl
theorem dL_law_1412 : decode cL_law 1412 = .ok (.aload_n 1, 1) := o_43 (u1_4 hc_L_law_1408 rfl) rfl
theorem dL_law_1413 : decode cL_law 1413 = .ok (.invokevirtual 160, 3) := o_182 (u1_5 hc_L_law_1408 rfl) (u2_d (u1_6 hc_L_law_1408 rfl) (u1_7 hc_L_law_1408 rfl) rfl) rfl
theorem dL_law_1416 : decode cL_law 1416 = .ok (.pop, 1) := o_87 (u1_8 hc_L_law_1408 rfl) rfl
theorem dL_law_1417 : decode cL_law 1417 = .ok (.aload_n 2, 1) := o_44 (u1_9 hc_L_law_1408 rfl) rfl
theorem dL_law_1418 : decode cL_law 1418 = .ok (.invokevirtual 163, 3) := o_182 (u1_10 hc_L_law_1408 rfl) (u2_d (u1_11 hc_L_law_1408 rfl) (u1_12 hc_L_law_1408 rfl) rfl) rfl
theorem dL_law_1421 : decode cL_law 1421 = .ok (.pop, 1) := o_87 (u1_13 hc_L_law_1408 rfl) rfl
theorem dL_law_1422 : decode cL_law 1422 = .ok (.goto 39, 3) := o_167 (u1_14 hc_L_law_1408 rfl) (s2_d (u2_d (u1_15 hc_L_law_1408 rfl) (u1_16 hc_L_law_1408 rfl) rfl) rfl) rfl
theorem hc_L_law_1424 : ((bL cL_law).drop 1424).take 18 = [39, 43, 42, 29, 4, 96, 46, 182, 0, 164, 87, 44, 42, 29, 4, 96, 46, 182] := by decide +kernel
theorem dL_law_1425 : decode cL_law 1425 = .ok (.aload_n 1, 1) := o_43 (u1_1 hc_L_law_1424 rfl) rfl
theorem dL_law_1426 : decode cL_law 1426 = .ok (.aload_n 0, 1) := o_42 (u1_2 hc_L_law_1424 rfl) rfl
theorem dL_law_1427 : decode cL_law 1427 = .ok (.iload_n 3, 1) := o_29 (u1_3 hc_L_law_1424 rfl) rfl
theorem dL_law_1428 : decode cL_law 1428 = .ok (.iconst 1, 1) := o_4 (u1_4 hc_L_law_1424 rfl) rfl
theorem dL_law_1429 : decode cL_law 1429 = .ok (.iadd, 1) := o_96 (u1_5 hc_L_law_1424 rfl) rfl
theorem dL_law_1430 : decode cL_law 1430 = .ok (.iaload, 1) := o_46 (u1_6 hc_L_law_1424 rfl) rfl
theorem dL_law_1431 : decode cL_law 1431 = .ok (.invokevirtual 164, 3) := o_182 (u1_7 hc_L_law_1424 rfl) (u2_d (u1_8 hc_L_law_1424 rfl) (u1_9 hc_L_law_1424 rfl) rfl) rfl
theorem dL_law_1434 : decode cL_law 1434 = .ok (.pop, 1) := o_87 (u1_10 hc_L_law_1424 rfl) rfl
theorem dL_law_1435 : decode cL_law 1435 = .ok (.aload_n 2, 1) := o_44 (u1_11 hc_L_law_1424 rfl) rfl
theorem dL_law_1436 : decode cL_law 1436 = .ok (.aload_n 0, 1) := o_42 (u1_12 hc_L_law_1424 rfl) rfl
theorem dL_law_1437 : decode cL_law 1437 = .ok (.iload_n 3, 1) := o_29 (u1_13 hc_L_law_1424 rfl) rfl
theorem dL_law_1438 : decode cL_law 1438 = .ok (.iconst 1, 1) := o_4 (u1_14 hc_L_law_1424 rfl) rfl
theorem dL_law_1439 : decode cL_law 1439 = .ok (.iadd, 1) := o_96 (u1_15 hc_L_law_1424 rfl) rfl
theorem hc_L_law_1440 : ((bL cL_law).drop 1440).take 18 = [46, 182, 0, 167, 87, 167, 0, 16, 43, 182, 0, 168, 88, 44, 182, 0, 171, 88] := by decide +kernel
theorem dL_law_1440 : decode cL_law 1440 = .ok (.iaload, 1) := o_46 (u1_0 hc_L_law_1440 rfl) rfl
theorem dL_law_1441 : decode cL_law 1441 = .ok (.invokevirtual 167, 3) := o_182 (u1_1 hc_L_law_1440 rfl) (u2_d (u1_2 hc_L_law_1440 rfl) (u1_3 hc_L_law_1440 rfl) rfl) rfl
theorem dL_law_1444 : decode cL_law 1444 = .ok (.pop, 1) := o_87 (u1_4 hc_L_law_1440 rfl) rfl
theorem dL_law_1445 : decode cL_law 1445 = .ok (.goto 16, 3) := o_167 (u1_5 hc_L_law_1440 rfl) (s2_d (u2_d (u1_6 hc_L_law_1440 rfl) (u1_7 hc_L_law_1440 rfl) rfl) rfl) rfl
theorem dL_law_1448 : decode cL_law 1448 = .ok (.aload_n 1, 1) := o_43 (u1_8 hc_L_law_1440 rfl) rfl
theorem dL_law_1449 : decode cL_law 1449 = .ok (.invokevirtual 168, 3) := o_182 (u1_9 hc_L_law_1440 rfl) (u2_d (u1_10 hc_L_law_1440 rfl) (u1_11 hc_L_law_1440 rfl) rfl) rfl
theorem dL_law_1452 : decode cL_law 1452 = .ok (.pop2, 1) := o_88 (u1_12 hc_L_law_1440 rfl) rfl
theorem dL_law_1453 : decode cL_law 1453 = .ok (.aload_n 2, 1) := o_44 (u1_13 hc_L_law_1440 rfl) rfl
theorem dL_law_1454 : decode cL_law 1454 = .ok (.invokevirtual 171, 3) := o_182 (u1_14 hc_L_law_1440 rfl) (u2_d (u1_15 hc_L_law_1440 rfl) (u1_16 hc_L_law_1440 rfl) rfl) rfl
theorem hc_L_law_1456 : ((bL cL_law).drop 1456).take 18 = [171, 88, 167, 0, 3, 132, 3, 7, 167, 250, 90, 4, 172] := by decide +kernel
theorem dL_law_1457 : decode cL_law 1457 = .ok (.pop2, 1) := o_88 (u1_1 hc_L_law_1456 rfl) rfl
theorem dL_law_1458 : decode cL_law 1458 = .ok (.goto 3, 3) := o_167 (u1_2 hc_L_law_1456 rfl) (s2_d (u2_d (u1_3 hc_L_law_1456 rfl) (u1_4 hc_L_law_1456 rfl) rfl) rfl) rfl
theorem dL_law_1461 : decode cL_law 1461 = .ok (.iinc 3 7, 3) := o_132 (u1_5 hc_L_law_1456 rfl) (u1_6 hc_L_law_1456 rfl) (s1_d (u1_7 hc_L_law_1456 rfl) rfl) rfl
theorem dL_law_1464 : decode cL_law 1464 = .ok (.goto (-1446), 3) := o_167 (u1_8 hc_L_law_1456 rfl) (s2_d (u2_d (u1_9 hc_L_law_1456 rfl) (u1_10 hc_L_law_1456 rfl) rfl) rfl) rfl
theorem dL_law_1467 : decode cL_law 1467 = .ok (.iconst 1, 1) := o_4 (u1_11 hc_L_law_1456 rfl) rfl
theorem dL_law_1468 : decode cL_law 1468 = .ok (.ireturn, 1) := o_172 (u1_12 hc_L_law_1456 rfl) rfl
abbrev vwCl : List vw_C := [(RX0, TX0, 7), (RX1, TX1, 15), (RX2, TX2, 4), (RX3, TX3, 4), (RX4, TX4, 3), (RX5, TX5, 11), (RX6, TX6, 2), (RX7, TX7, 15), (RX8, TX8, 6), (RX9, TX9, 11), (RX10, TX10, 7), (RX11, TX11, 11), (RX12, TX12, 69)]
