theorem dL_law_1202 : decode cL_law 1202 = .ok (.aload_n 1, 1) := by decide +kernel
theorem dL_law_1203 : decode cL_law 1203 = .ok (.aload_n 0, 1) := by decide +kernel
theorem dL_law_1204 : decode cL_law 1204 = .ok (.iload_n 3, 1) := by decide +kernel
theorem dL_law_1205 : decode cL_law 1205 = .ok (.iconst 1, 1) := by decide +kernel
theorem dL_law_1206 : decode cL_law 1206 = .ok (.iadd, 1) := by decide +kernel
theorem dL_law_1207 : decode cL_law 1207 = .ok (.iaload, 1) := by decide +kernel
theorem dL_law_1208 : decode cL_law 1208 = .ok (.aload_n 0, 1) := by decide +kernel
theorem dL_law_1209 : decode cL_law 1209 = .ok (.iload_n 3, 1) := by decide +kernel
theorem dL_law_1210 : decode cL_law 1210 = .ok (.iconst 2, 1) := by decide +kernel
theorem dL_law_1211 : decode cL_law 1211 = .ok (.iadd, 1) := by decide +kernel
theorem dL_law_1212 : decode cL_law 1212 = .ok (.iaload, 1) := by decide +kernel
theorem dL_law_1213 : decode cL_law 1213 = .ok (.aload_n 0, 1) := by decide +kernel
theorem dL_law_1214 : decode cL_law 1214 = .ok (.iload_n 3, 1) := by decide +kernel
theorem dL_law_1215 : decode cL_law 1215 = .ok (.iconst 3, 1) := by decide +kernel
theorem dL_law_1216 : decode cL_law 1216 = .ok (.iadd, 1) := by decide +kernel
theorem dL_law_1217 : decode cL_law 1217 = .ok (.iaload, 1) := by decide +kernel
theorem dL_law_1218 : decode cL_law 1218 = .ok (.invokevirtual 123, 3) := by decide +kernel
theorem dL_law_1221 : decode cL_law 1221 = .ok (.aload_n 2, 1) := by decide +kernel
theorem dL_law_1222 : decode cL_law 1222 = .ok (.aload_n 0, 1) := by decide +kernel
theorem dL_law_1223 : decode cL_law 1223 = .ok (.iload_n 3, 1) := by decide +kernel
theorem dL_law_1224 : decode cL_law 1224 = .ok (.iconst 1, 1) := by decide +kernel
theorem dL_law_1225 : decode cL_law 1225 = .ok (.iadd, 1) := by decide +kernel
theorem dL_law_1226 : decode cL_law 1226 = .ok (.iaload, 1) := by decide +kernel
theorem dL_law_1227 : decode cL_law 1227 = .ok (.aload_n 0, 1) := by decide +kernel
theorem dL_law_1228 : decode cL_law 1228 = .ok (.iload_n 3, 1) := by decide +kernel
theorem dL_law_1229 : decode cL_law 1229 = .ok (.iconst 2, 1) := by decide +kernel
theorem dL_law_1230 : decode cL_law 1230 = .ok (.iadd, 1) := by decide +kernel
theorem dL_law_1231 : decode cL_law 1231 = .ok (.iaload, 1) := by decide +kernel
theorem dL_law_1232 : decode cL_law 1232 = .ok (.aload_n 0, 1) := by decide +kernel
theorem dL_law_1233 : decode cL_law 1233 = .ok (.iload_n 3, 1) := by decide +kernel
theorem dL_law_1234 : decode cL_law 1234 = .ok (.iconst 3, 1) := by decide +kernel
theorem dL_law_1235 : decode cL_law 1235 = .ok (.iadd, 1) := by decide +kernel
theorem dL_law_1236 : decode cL_law 1236 = .ok (.iaload, 1) := by decide +kernel
theorem dL_law_1237 : decode cL_law 1237 = .ok (.invokevirtual 126, 3) := by decide +kernel
theorem dL_law_1240 : decode cL_law 1240 = .ok (.lcmp, 1) := by decide +kernel
theorem dL_law_1241 : decode cL_law 1241 = .ok (.ifCond .eq 1045, 3) := by decide +kernel
theorem dL_law_1246 : decode cL_law 1246 = .ok (.aload_n 1, 1) := by decide +kernel
theorem dL_law_1247 : decode cL_law 1247 = .ok (.aload_n 0, 1) := by decide +kernel
theorem dL_law_1248 : decode cL_law 1248 = .ok (.iload_n 3, 1) := by decide +kernel
theorem dL_law_1249 : decode cL_law 1249 = .ok (.iconst 1, 1) := by decide +kernel
theorem dL_law_1250 : decode cL_law 1250 = .ok (.iadd, 1) := by decide +kernel
theorem dL_law_1251 : decode cL_law 1251 = .ok (.iaload, 1) := by decide +kernel
theorem dL_law_1252 : decode cL_law 1252 = .ok (.aload_n 0, 1) := by decide +kernel
theorem dL_law_1253 : decode cL_law 1253 = .ok (.iload_n 3, 1) := by decide +kernel
theorem dL_law_1254 : decode cL_law 1254 = .ok (.iconst 2, 1) := by decide +kernel
theorem dL_law_1255 : decode cL_law 1255 = .ok (.iadd, 1) := by decide +kernel
theorem dL_law_1256 : decode cL_law 1256 = .ok (.iaload, 1) := by decide +kernel
theorem dL_law_1257 : decode cL_law 1257 = .ok (.aload_n 0, 1) := by decide +kernel
theorem dL_law_1258 : decode cL_law 1258 = .ok (.iload_n 3, 1) := by decide +kernel
theorem dL_law_1259 : decode cL_law 1259 = .ok (.iconst 3, 1) := by decide +kernel
theorem dL_law_1260 : decode cL_law 1260 = .ok (.iadd, 1) := by decide +kernel
theorem dL_law_1261 : decode cL_law 1261 = .ok (.iaload, 1) := by decide +kernel
theorem dL_law_1262 : decode cL_law 1262 = .ok (.invokevirtual 127, 3) := by decide +kernel
theorem dL_law_1265 : decode cL_law 1265 = .ok (.aload_n 2, 1) := by decide +kernel
theorem dL_law_1266 : decode cL_law 1266 = .ok (.aload_n 0, 1) := by decide +kernel
theorem dL_law_1267 : decode cL_law 1267 = .ok (.iload_n 3, 1) := by decide +kernel
theorem dL_law_1268 : decode cL_law 1268 = .ok (.iconst 1, 1) := by decide +kernel
theorem dL_law_1269 : decode cL_law 1269 = .ok (.iadd, 1) := by decide +kernel
theorem dL_law_1270 : decode cL_law 1270 = .ok (.iaload, 1) := by decide +kernel
theorem dL_law_1271 : decode cL_law 1271 = .ok (.aload_n 0, 1) := by decide +kernel
theorem dL_law_1272 : decode cL_law 1272 = .ok (.iload_n 3, 1) := by decide +kernel
theorem dL_law_1273 : decode cL_law 1273 = .ok (.iconst 2, 1) := by decide +kernel
theorem dL_law_1274 : decode cL_law 1274 = .ok (.iadd, 1) := by decide +kernel
theorem dL_law_1275 : decode cL_law 1275 = .ok (.iaload, 1) := by decide +kernel
theorem dL_law_1276 : decode cL_law 1276 = .ok (.aload_n 0, 1) := by decide +kernel
theorem dL_law_1277 : decode cL_law 1277 = .ok (.iload_n 3, 1) := by decide +kernel
theorem dL_law_1278 : decode cL_law 1278 = .ok (.iconst 3, 1) := by decide +kernel
theorem dL_law_1279 : decode cL_law 1279 = .ok (.iadd, 1) := by decide +kernel
theorem dL_law_1280 : decode cL_law 1280 = .ok (.iaload, 1) := by decide +kernel
theorem dL_law_1281 : decode cL_law 1281 = .ok (.invokevirtual 130, 3) := by decide +kernel
theorem dL_law_1284 : decode cL_law 1284 = .ok (.lcmp, 1) := by decide +kernel
theorem dL_law_1285 : decode cL_law 1285 = .ok (.ifCond .eq 1001, 3) := by decide +kernel
theorem dL_law_1290 : decode cL_law 1290 = .ok (.aload_n 1, 1) := by decide +kernel
theorem dL_law_1291 : decode cL_law 1291 = .ok (.aload_n 0, 1) := by decide +kernel
theorem dL_law_1292 : decode cL_law 1292 = .ok (.iload_n 3, 1) := by decide +kernel
theorem dL_law_1293 : decode cL_law 1293 = .ok (.iconst 1, 1) := by decide +kernel
theorem dL_law_1294 : decode cL_law 1294 = .ok (.iadd, 1) := by decide +kernel
theorem dL_law_1295 : decode cL_law 1295 = .ok (.iaload, 1) := by decide +kernel
theorem dL_law_1296 : decode cL_law 1296 = .ok (.aload_n 0, 1) := by decide +kernel
theorem dL_law_1297 : decode cL_law 1297 = .ok (.iload_n 3, 1) := by decide +kernel
theorem dL_law_1298 : decode cL_law 1298 = .ok (.iconst 2, 1) := by decide +kernel
theorem dL_law_1299 : decode cL_law 1299 = .ok (.iadd, 1) := by decide +kernel
theorem dL_law_1300 : decode cL_law 1300 = .ok (.iaload, 1) := by decide +kernel
theorem dL_law_1301 : decode cL_law 1301 = .ok (.invokevirtual 131, 3) := by decide +kernel
theorem dL_law_1304 : decode cL_law 1304 = .ok (.aload_n 2, 1) := by decide +kernel
theorem dL_law_1305 : decode cL_law 1305 = .ok (.aload_n 0, 1) := by decide +kernel
theorem dL_law_1306 : decode cL_law 1306 = .ok (.iload_n 3, 1) := by decide +kernel
theorem dL_law_1307 : decode cL_law 1307 = .ok (.iconst 1, 1) := by decide +kernel
theorem dL_law_1308 : decode cL_law 1308 = .ok (.iadd, 1) := by decide +kernel
theorem dL_law_1309 : decode cL_law 1309 = .ok (.iaload, 1) := by decide +kernel
theorem dL_law_1310 : decode cL_law 1310 = .ok (.aload_n 0, 1) := by decide +kernel
theorem dL_law_1311 : decode cL_law 1311 = .ok (.iload_n 3, 1) := by decide +kernel
theorem dL_law_1312 : decode cL_law 1312 = .ok (.iconst 2, 1) := by decide +kernel
theorem dL_law_1313 : decode cL_law 1313 = .ok (.iadd, 1) := by decide +kernel
theorem dL_law_1314 : decode cL_law 1314 = .ok (.iaload, 1) := by decide +kernel
theorem dL_law_1315 : decode cL_law 1315 = .ok (.invokevirtual 134, 3) := by decide +kernel
theorem dL_law_1318 : decode cL_law 1318 = .ok (.if_icmp .eq 968, 3) := by decide +kernel
theorem dL_law_1323 : decode cL_law 1323 = .ok (.aload_n 1, 1) := by decide +kernel
theorem dL_law_1324 : decode cL_law 1324 = .ok (.aload_n 0, 1) := by decide +kernel
theorem dL_law_1325 : decode cL_law 1325 = .ok (.iload_n 3, 1) := by decide +kernel
theorem dL_law_1326 : decode cL_law 1326 = .ok (.iconst 1, 1) := by decide +kernel
theorem dL_law_1327 : decode cL_law 1327 = .ok (.iadd, 1) := by decide +kernel
theorem dL_law_1328 : decode cL_law 1328 = .ok (.iaload, 1) := by decide +kernel
theorem dL_law_1329 : decode cL_law 1329 = .ok (.invokevirtual 135, 3) := by decide +kernel
theorem dL_law_1332 : decode cL_law 1332 = .ok (.aload_n 2, 1) := by decide +kernel
theorem dL_law_1333 : decode cL_law 1333 = .ok (.aload_n 0, 1) := by decide +kernel
theorem dL_law_1334 : decode cL_law 1334 = .ok (.iload_n 3, 1) := by decide +kernel
theorem dL_law_1335 : decode cL_law 1335 = .ok (.iconst 1, 1) := by decide +kernel
theorem dL_law_1336 : decode cL_law 1336 = .ok (.iadd, 1) := by decide +kernel
theorem dL_law_1337 : decode cL_law 1337 = .ok (.iaload, 1) := by decide +kernel
theorem dL_law_1338 : decode cL_law 1338 = .ok (.invokevirtual 138, 3) := by decide +kernel
theorem dL_law_1341 : decode cL_law 1341 = .ok (.if_icmp .eq 945, 3) := by decide +kernel
theorem dL_law_1346 : decode cL_law 1346 = .ok (.aload_n 1, 1) := by decide +kernel
theorem dL_law_1347 : decode cL_law 1347 = .ok (.aload_n 0, 1) := by decide +kernel
theorem dL_law_1348 : decode cL_law 1348 = .ok (.iload_n 3, 1) := by decide +kernel
theorem dL_law_1349 : decode cL_law 1349 = .ok (.iconst 1, 1) := by decide +kernel
theorem dL_law_1350 : decode cL_law 1350 = .ok (.iadd, 1) := by decide +kernel
theorem dL_law_1351 : decode cL_law 1351 = .ok (.iaload, 1) := by decide +kernel
theorem dL_law_1352 : decode cL_law 1352 = .ok (.aload_n 0, 1) := by decide +kernel
theorem dL_law_1353 : decode cL_law 1353 = .ok (.iload_n 3, 1) := by decide +kernel
theorem dL_law_1354 : decode cL_law 1354 = .ok (.iconst 2, 1) := by decide +kernel
theorem dL_law_1355 : decode cL_law 1355 = .ok (.iadd, 1) := by decide +kernel
theorem dL_law_1356 : decode cL_law 1356 = .ok (.iaload, 1) := by decide +kernel
theorem dL_law_1357 : decode cL_law 1357 = .ok (.aload_n 0, 1) := by decide +kernel
theorem dL_law_1358 : decode cL_law 1358 = .ok (.iload_n 3, 1) := by decide +kernel
theorem dL_law_1359 : decode cL_law 1359 = .ok (.iconst 3, 1) := by decide +kernel
theorem dL_law_1360 : decode cL_law 1360 = .ok (.iadd, 1) := by decide +kernel
theorem dL_law_1361 : decode cL_law 1361 = .ok (.iaload, 1) := by decide +kernel
theorem dL_law_1362 : decode cL_law 1362 = .ok (.aload_n 0, 1) := by decide +kernel
theorem dL_law_1363 : decode cL_law 1363 = .ok (.iload_n 3, 1) := by decide +kernel
theorem dL_law_1364 : decode cL_law 1364 = .ok (.iconst 4, 1) := by decide +kernel
theorem dL_law_1365 : decode cL_law 1365 = .ok (.iadd, 1) := by decide +kernel
theorem dL_law_1366 : decode cL_law 1366 = .ok (.iaload, 1) := by decide +kernel
theorem dL_law_1367 : decode cL_law 1367 = .ok (.invokevirtual 139, 3) := by decide +kernel
theorem dL_law_1370 : decode cL_law 1370 = .ok (.aload_n 2, 1) := by decide +kernel
theorem dL_law_1371 : decode cL_law 1371 = .ok (.aload_n 0, 1) := by decide +kernel
theorem dL_law_1372 : decode cL_law 1372 = .ok (.iload_n 3, 1) := by decide +kernel
theorem dL_law_1373 : decode cL_law 1373 = .ok (.iconst 1, 1) := by decide +kernel
theorem dL_law_1374 : decode cL_law 1374 = .ok (.iadd, 1) := by decide +kernel
theorem dL_law_1375 : decode cL_law 1375 = .ok (.iaload, 1) := by decide +kernel
theorem dL_law_1376 : decode cL_law 1376 = .ok (.aload_n 0, 1) := by decide +kernel
theorem dL_law_1377 : decode cL_law 1377 = .ok (.iload_n 3, 1) := by decide +kernel
theorem dL_law_1378 : decode cL_law 1378 = .ok (.iconst 2, 1) := by decide +kernel
theorem dL_law_1379 : decode cL_law 1379 = .ok (.iadd, 1) := by decide +kernel
theorem dL_law_1380 : decode cL_law 1380 = .ok (.iaload, 1) := by decide +kernel
theorem dL_law_1381 : decode cL_law 1381 = .ok (.aload_n 0, 1) := by decide +kernel
theorem dL_law_1382 : decode cL_law 1382 = .ok (.iload_n 3, 1) := by decide +kernel
theorem dL_law_1383 : decode cL_law 1383 = .ok (.iconst 3, 1) := by decide +kernel
theorem dL_law_1384 : decode cL_law 1384 = .ok (.iadd, 1) := by decide +kernel
theorem dL_law_1385 : decode cL_law 1385 = .ok (.iaload, 1) := by decide +kernel
theorem dL_law_1386 : decode cL_law 1386 = .ok (.aload_n 0, 1) := by decide +kernel
theorem dL_law_1387 : decode cL_law 1387 = .ok (.iload_n 3, 1) := by decide +kernel
theorem dL_law_1388 : decode cL_law 1388 = .ok (.iconst 4, 1) := by decide +kernel
theorem dL_law_1389 : decode cL_law 1389 = .ok (.iadd, 1) := by decide +kernel
theorem dL_law_1390 : decode cL_law 1390 = .ok (.iaload, 1) := by decide +kernel
theorem dL_law_1391 : decode cL_law 1391 = .ok (.invokevirtual 142, 3) := by decide +kernel
theorem dL_law_1394 : decode cL_law 1394 = .ok (.lcmp, 1) := by decide +kernel
theorem dL_law_1395 : decode cL_law 1395 = .ok (.ifCond .eq 891, 3) := by decide +kernel
theorem sV_L_123 : SiteV RL 123 yX9_shares cX9_shares 6 (some .long) 3 := ⟨ml_L_123, im_X9_shares, se_X9_shares, ini_X9, co_X9_shares, by decide +kernel⟩
theorem sV_L_126 : SiteV RL 126 yX10_shares cX10_shares 6 (some .long) 3 := ⟨ml_L_126, im_X10_shares, se_X10_shares, ini_X10, co_X10_shares, by decide +kernel⟩
theorem sV_L_127 : SiteV RL 127 yX9_flown cX9_flown 4 (some .long) 3 := ⟨ml_L_127, im_X9_flown, se_X9_flown, ini_X9, co_X9_flown, by decide +kernel⟩
theorem sV_L_130 : SiteV RL 130 yX10_flown cX10_flown 4 (some .long) 3 := ⟨ml_L_130, im_X10_flown, se_X10_flown, ini_X10, co_X10_flown, by decide +kernel⟩
theorem sV_L_131 : SiteV RL 131 yX9_plane cX9_plane 9 (some .int) 2 := ⟨ml_L_131, im_X9_plane, se_X9_plane, ini_X9, co_X9_plane, by decide +kernel⟩
theorem sV_L_134 : SiteV RL 134 yX10_plane cX10_plane 9 (some .int) 2 := ⟨ml_L_134, im_X10_plane, se_X10_plane, ini_X10, co_X10_plane, by decide +kernel⟩
theorem sV_L_135 : SiteV RL 135 yX9_edge cX9_edge 4 (some .int) 1 := ⟨ml_L_135, im_X9_edge, se_X9_edge, ini_X9, co_X9_edge, by decide +kernel⟩
theorem sV_L_138 : SiteV RL 138 yX10_edge cX10_edge 3 (some .int) 1 := ⟨ml_L_138, im_X10_edge, se_X10_edge, ini_X10, co_X10_edge, by decide +kernel⟩
theorem sV_L_139 : SiteV RL 139 yX9_path cX9_path 5 (some .long) 4 := ⟨ml_L_139, im_X9_path, se_X9_path, ini_X9, co_X9_path, by decide +kernel⟩
theorem sV_L_142 : SiteV RL 142 yX10_path cX10_path 10 (some .long) 4 := ⟨ml_L_142, im_X10_path, se_X10_path, ini_X10, co_X10_path, by decide +kernel⟩
set_option maxHeartbeats 4000000 in
set_option maxRecDepth 100000 in
theorem lc_25 {p : Program} {e : Env} {s : State} {m : MethodId} {below : List Frame} {meth : Method} {c : Code} {l : Launch} {b L : Nat} {xs : Nat → Int32} {A : Nat → Prop} (D : va_G) (cy : Nat → ClassId) (xa ma : Nat → Nat) (fw : Nat → Int32) (hw : ∀ k : Nat, k < 4 → fw k = -1) (hL7 : L = 7) (C0 : lw_At p s m meth c b L xs) (hK : KK D cy s) (hA : ∀ q : Nat, s.heap.size ≤ q → A q) (hA2 : ∀ q : Nat, A q → s.heap.size ≤ q) (hbA : ¬ A b) {H : Heap} {locs : List Loc} (hP : va_P D vwCl [((xa 0), .inr (9, [.ref (xa 1), .ref (xa 2), .ref (xa 3), .ref (xa 4), .ref (xa 5), .ref (xa 6), .ref (xa 7), .ref (xa 8), .ref (xa 9), .int 0, .ref (xa 11), .null, .int 0, .int (-1)])), ((xa 1), .inl (cy 0, 1600, .inl (fun _ => 0))), ((xa 2), .inr (4, [.int 0, .int (-1), .ref (xa 30), .int 0, .int 0, .int 0, .int 0, .int 0, .ref (xa 31), .int 0, .int 0, .int 0])), ((xa 8), .inl (cy 4, 4, .inr (.inr (.inr (.inr (fun _ => none)))))), ((xa 9), .inl (cy 5, 3, .inr (.inr (.inr (.inr (fun _ => none)))))), ((xa 11), .inr (2, [.int 0, .int 0, .int 0, .int 0, .int 0, .int 0, .int 0, .int 0, .int 1, .int 10, .int 0, .int 0, .int 0, .int 0, .ref (xa 20), .ref (xa 21), .ref (xa 22), .ref (xa 23), .ref (xa 24), .ref (xa 25), .ref (xa 26)])), ((ma 0), .inr (10, [.int 0, .ref (ma 1), .ref (ma 2), .ref (ma 3), .ref (ma 4), .ref (ma 5), .int 0, .int 0, .int 0, .int 0, .int 0, .long 0, .int 0, .int 0, .int 0, .int (-1), .ref (ma 16), .ref (ma 17), .ref (ma 18), .ref (ma 19), .ref (ma 20), .ref (ma 21), .ref (ma 22), .ref (ma 23), .ref (ma 24), .ref (ma 25), .ref (ma 26), .ref (ma 27), .ref (ma 28), .ref (ma 29), .ref (ma 30), .ref (ma 31), .ref (ma 32), .ref (ma 33), .ref (ma 34), .ref (ma 35), .ref (ma 36), .ref (ma 37), .ref (ma 38), .ref (ma 39), .ref (ma 40), .ref (ma 41), .long 0])), ((ma 1), .inl (cy 1, 4, .inl fw)), ((ma 2), .inl (cy 1, 4, .inl (fun _ => 0))), ((ma 3), .inl (cy 2, 240, .inr (.inl (fun _ => 0)))), ((ma 5), .inl (cy 0, 1600, .inl (fun _ => 0))), ((ma 16), .inl (cy 1, 5, .inl (fun _ => 0))), ((ma 17), .inl (cy 1, 20, .inl (fun _ => 0))), ((ma 18), .inl (cy 1, 5, .inl (fun _ => 0))), ((ma 19), .inl (cy 1, 45, .inl (fun _ => 0))), ((ma 20), .inl (cy 1, 5, .inl (fun _ => 0))), ((ma 21), .inl (cy 1, 150, .inl (fun _ => 0))), ((ma 22), .inl (cy 1, 5, .inl (fun _ => 0))), ((ma 23), .inl (cy 1, 120, .inl (fun _ => 0))), ((ma 24), .inl (cy 1, 30, .inl (fun _ => 0))), ((ma 25), .inl (cy 3, 15, .inl (fun _ => 0))), ((ma 26), .inl (cy 1, 5, .inl (fun _ => 0))), ((ma 27), .inl (cy 1, 30, .inl (fun _ => 0))), ((ma 28), .inl (cy 3, 3, .inl (fun _ => 0)))] H) (hD : va_D A [((xa 0), .inr (9, [.ref (xa 1), .ref (xa 2), .ref (xa 3), .ref (xa 4), .ref (xa 5), .ref (xa 6), .ref (xa 7), .ref (xa 8), .ref (xa 9), .int 0, .ref (xa 11), .null, .int 0, .int (-1)])), ((xa 1), .inl (cy 0, 1600, .inl (fun _ => 0))), ((xa 2), .inr (4, [.int 0, .int (-1), .ref (xa 30), .int 0, .int 0, .int 0, .int 0, .int 0, .ref (xa 31), .int 0, .int 0, .int 0])), ((xa 8), .inl (cy 4, 4, .inr (.inr (.inr (.inr (fun _ => none)))))), ((xa 9), .inl (cy 5, 3, .inr (.inr (.inr (.inr (fun _ => none)))))), ((xa 11), .inr (2, [.int 0, .int 0, .int 0, .int 0, .int 0, .int 0, .int 0, .int 0, .int 1, .int 10, .int 0, .int 0, .int 0, .int 0, .ref (xa 20), .ref (xa 21), .ref (xa 22), .ref (xa 23), .ref (xa 24), .ref (xa 25), .ref (xa 26)])), ((ma 0), .inr (10, [.int 0, .ref (ma 1), .ref (ma 2), .ref (ma 3), .ref (ma 4), .ref (ma 5), .int 0, .int 0, .int 0, .int 0, .int 0, .long 0, .int 0, .int 0, .int 0, .int (-1), .ref (ma 16), .ref (ma 17), .ref (ma 18), .ref (ma 19), .ref (ma 20), .ref (ma 21), .ref (ma 22), .ref (ma 23), .ref (ma 24), .ref (ma 25), .ref (ma 26), .ref (ma 27), .ref (ma 28), .ref (ma 29), .ref (ma 30), .ref (ma 31), .ref (ma 32), .ref (ma 33), .ref (ma 34), .ref (ma 35), .ref (ma 36), .ref (ma 37), .ref (ma 38), .ref (ma 39), .ref (ma 40), .ref (ma 41), .long 0])), ((ma 1), .inl (cy 1, 4, .inl fw)), ((ma 2), .inl (cy 1, 4, .inl (fun _ => 0))), ((ma 3), .inl (cy 2, 240, .inr (.inl (fun _ => 0)))), ((ma 5), .inl (cy 0, 1600, .inl (fun _ => 0))), ((ma 16), .inl (cy 1, 5, .inl (fun _ => 0))), ((ma 17), .inl (cy 1, 20, .inl (fun _ => 0))), ((ma 18), .inl (cy 1, 5, .inl (fun _ => 0))), ((ma 19), .inl (cy 1, 45, .inl (fun _ => 0))), ((ma 20), .inl (cy 1, 5, .inl (fun _ => 0))), ((ma 21), .inl (cy 1, 150, .inl (fun _ => 0))), ((ma 22), .inl (cy 1, 5, .inl (fun _ => 0))), ((ma 23), .inl (cy 1, 120, .inl (fun _ => 0))), ((ma 24), .inl (cy 1, 30, .inl (fun _ => 0))), ((ma 25), .inl (cy 3, 15, .inl (fun _ => 0))), ((ma 26), .inl (cy 1, 5, .inl (fun _ => 0))), ((ma 27), .inl (cy 1, 30, .inl (fun _ => 0))), ((ma 28), .inl (cy 3, 3, .inl (fun _ => 0)))]) (hS : va_S A s.heap H locs) {ls : Array Slot} (hl : lv_has ls 4 [(3, .int 0), (2, .ref (ma 0)), (1, .ref (xa 0)), (0, .ref b)]) : W p l e room_1 s m #[Value.ref b] below meth c H locs 82 108979 (lw_Z below #[Value.ref b] s) (F0 m 1202 ls []) := by
  obtain ⟨hx, hb, hr, hml, hown, hts, hX, hbl, hlocks, hgv⟩ := id C0
  have hown : s.vm.findClass RL = some m.cls := hown
  have hb : c.code = cL_law := hb
  have hts : ∀ w ∈ GW, w.before #[Value.ref b] s = true := fun w h => hts w (gw_tbl w h)
  refine lv_aload_n hx hb dL_law_1202 rfl (lv_at hl 2 rfl) ?_
  refine lv_aload_n hx hb dL_law_1203 rfl (lv_at hl 3 rfl) ?_
  refine lv_iload_n hx hb dL_law_1204 rfl (lv_at hl 0 rfl) ?_
  refine lv_iconst (v := 1) hx hb dL_law_1205 (by decide) ?_
  refine lv_iadd hx hb dL_law_1206 ?_
  refine lv_topi (fun z_1 ez_1 => ?_)
  have ez_1 : z_1 = 1 := ez_1.trans (by decide)
  subst ez_1
  refine va_sld (i := 1) hx hb hX hbl hbA hS (by subst hL7; exact vp_in_iff.mpr (by decide)) dL_law_1207 ?_
  refine W.eq (g2 := F0 m 1208 ls [.int (xs 1), .ref (xa 0)]) rfl ?_
  refine lv_aload_n hx hb dL_law_1208 rfl (lv_at hl 3 rfl) ?_
  refine lv_iload_n hx hb dL_law_1209 rfl (lv_at hl 0 rfl) ?_
  refine lv_iconst (v := 2) hx hb dL_law_1210 (by decide) ?_
  refine lv_iadd hx hb dL_law_1211 ?_
  refine lv_topi (fun z_2 ez_2 => ?_)
  have ez_2 : z_2 = 2 := ez_2.trans (by decide)
  subst ez_2
  refine va_sld (i := 2) hx hb hX hbl hbA hS (by subst hL7; exact vp_in_iff.mpr (by decide)) dL_law_1212 ?_
  refine W.eq (g2 := F0 m 1213 ls [.int (xs 2), .int (xs 1), .ref (xa 0)]) rfl ?_
  refine lv_aload_n hx hb dL_law_1213 rfl (lv_at hl 3 rfl) ?_
  refine lv_iload_n hx hb dL_law_1214 rfl (lv_at hl 0 rfl) ?_
  refine lv_iconst (v := 3) hx hb dL_law_1215 (by decide) ?_
  refine lv_iadd hx hb dL_law_1216 ?_
  refine lv_topi (fun z_3 ez_3 => ?_)
  have ez_3 : z_3 = 3 := ez_3.trans (by decide)
  subst ez_3
  refine va_sld (i := 3) hx hb hX hbl hbA hS (by subst hL7; exact vp_in_iff.mpr (by decide)) dL_law_1217 ?_
  refine W.eq (g2 := F0 m 1218 ls [.int (xs 3), .int (xs 2), .int (xs 1), .ref (xa 0)]) rfl ?_
  refine pu_calll (runV (As := [.int (xs 1), .int (xs 2), .int (xs 3)]) (rest := []) ⟨hx, hb, hml, hown, hts⟩ (f_X9_shares l D cy xa (xs 1) (xs 2) (xs 3) ) sV_L_123 hK (va_recv hK.1 hP (ci := 9) (q0 := 0) rfl rfl) (hP.sub (ws' := [((xa 0), .inr (9, [.ref (xa 1), .ref (xa 2), .ref (xa 3), .ref (xa 4), .ref (xa 5), .ref (xa 6), .ref (xa 7), .ref (xa 8), .ref (xa 9), .int 0, .ref (xa 11), .null, .int 0, .int (-1)])), ((xa 11), .inr (2, [.int 0, .int 0, .int 0, .int 0, .int 0, .int 0, .int 0, .int 0, .int 1, .int 10, .int 0, .int 0, .int 0, .int 0, .ref (xa 20), .ref (xa 21), .ref (xa 22), .ref (xa 23), .ref (xa 24), .ref (xa 25), .ref (xa 26)]))]) [0, 5] rfl) ⟨Nat.le_of_ble_eq_true rfl, Nat.le_of_ble_eq_true rfl⟩ rfl hl.1 rfl (Nat.le_of_ble_eq_true rfl) dL_law_1218 ⟨Nat.le_of_ble_eq_true rfl, Nat.le_of_ble_eq_true rfl⟩) (fun r_4 hr_4 => ?_)
  have er_4 := hr_4
  subst er_4
  refine W.eq (g2 := F0 m 1221 ls [.long (-1000000000000)]) rfl ?_
  refine lv_aload_n hx hb dL_law_1221 rfl (lv_at hl 1 rfl) ?_
  refine lv_aload_n hx hb dL_law_1222 rfl (lv_at hl 3 rfl) ?_
  refine lv_iload_n hx hb dL_law_1223 rfl (lv_at hl 0 rfl) ?_
  refine lv_iconst (v := 1) hx hb dL_law_1224 (by decide) ?_
  refine lv_iadd hx hb dL_law_1225 ?_
  refine lv_topi (fun z_5 ez_5 => ?_)
  have ez_5 : z_5 = 1 := ez_5.trans (by decide)
  subst ez_5
  refine va_sld (i := 1) hx hb hX hbl hbA hS (by subst hL7; exact vp_in_iff.mpr (by decide)) dL_law_1226 ?_
  refine W.eq (g2 := F0 m 1227 ls [.int (xs 1), .ref (ma 0), .long (-1000000000000)]) rfl ?_
  refine lv_aload_n hx hb dL_law_1227 rfl (lv_at hl 3 rfl) ?_
  refine lv_iload_n hx hb dL_law_1228 rfl (lv_at hl 0 rfl) ?_
  refine lv_iconst (v := 2) hx hb dL_law_1229 (by decide) ?_
  refine lv_iadd hx hb dL_law_1230 ?_
  refine lv_topi (fun z_6 ez_6 => ?_)
  have ez_6 : z_6 = 2 := ez_6.trans (by decide)
  subst ez_6
  refine va_sld (i := 2) hx hb hX hbl hbA hS (by subst hL7; exact vp_in_iff.mpr (by decide)) dL_law_1231 ?_
  refine W.eq (g2 := F0 m 1232 ls [.int (xs 2), .int (xs 1), .ref (ma 0), .long (-1000000000000)]) rfl ?_
  refine lv_aload_n hx hb dL_law_1232 rfl (lv_at hl 3 rfl) ?_
  refine lv_iload_n hx hb dL_law_1233 rfl (lv_at hl 0 rfl) ?_
  refine lv_iconst (v := 3) hx hb dL_law_1234 (by decide) ?_
  refine lv_iadd hx hb dL_law_1235 ?_
  refine lv_topi (fun z_7 ez_7 => ?_)
  have ez_7 : z_7 = 3 := ez_7.trans (by decide)
  subst ez_7
  refine va_sld (i := 3) hx hb hX hbl hbA hS (by subst hL7; exact vp_in_iff.mpr (by decide)) dL_law_1236 ?_
  refine W.eq (g2 := F0 m 1237 ls [.int (xs 3), .int (xs 2), .int (xs 1), .ref (ma 0), .long (-1000000000000)]) rfl ?_
  refine fw_call (wc := [((ma 0), .inr (10, [.int 0, .ref (ma 1), .ref (ma 2), .ref (ma 3), .ref (ma 4), .ref (ma 5), .int 0, .int 0, .int 0, .int 0, .int 0, .long 0, .int 0, .int 0, .int 0, .int (-1), .ref (ma 16), .ref (ma 17), .ref (ma 18), .ref (ma 19), .ref (ma 20), .ref (ma 21), .ref (ma 22), .ref (ma 23), .ref (ma 24), .ref (ma 25), .ref (ma 26), .ref (ma 27), .ref (ma 28), .ref (ma 29), .ref (ma 30), .ref (ma 31), .ref (ma 32), .ref (ma 33), .ref (ma 34), .ref (ma 35), .ref (ma 36), .ref (ma 37), .ref (ma 38), .ref (ma 39), .ref (ma 40), .ref (ma 41), .long 0])), ((ma 20), .inl (cy 1, 5, .inl (fun _ => 0))), ((ma 18), .inl (cy 1, 5, .inl (fun _ => 0))), ((ma 17), .inl (cy 1, 20, .inl (fun _ => 0)))]) (wr := [((xa 0), .inr (9, [.ref (xa 1), .ref (xa 2), .ref (xa 3), .ref (xa 4), .ref (xa 5), .ref (xa 6), .ref (xa 7), .ref (xa 8), .ref (xa 9), .int 0, .ref (xa 11), .null, .int 0, .int (-1)])), ((xa 1), .inl (cy 0, 1600, .inl (fun _ => 0))), ((xa 2), .inr (4, [.int 0, .int (-1), .ref (xa 30), .int 0, .int 0, .int 0, .int 0, .int 0, .ref (xa 31), .int 0, .int 0, .int 0])), ((xa 8), .inl (cy 4, 4, .inr (.inr (.inr (.inr (fun _ => none)))))), ((xa 9), .inl (cy 5, 3, .inr (.inr (.inr (.inr (fun _ => none)))))), ((xa 11), .inr (2, [.int 0, .int 0, .int 0, .int 0, .int 0, .int 0, .int 0, .int 0, .int 1, .int 10, .int 0, .int 0, .int 0, .int 0, .ref (xa 20), .ref (xa 21), .ref (xa 22), .ref (xa 23), .ref (xa 24), .ref (xa 25), .ref (xa 26)])), ((ma 1), .inl (cy 1, 4, .inl fw)), ((ma 2), .inl (cy 1, 4, .inl (fun _ => 0))), ((ma 3), .inl (cy 2, 240, .inr (.inl (fun _ => 0)))), ((ma 5), .inl (cy 0, 1600, .inl (fun _ => 0))), ((ma 16), .inl (cy 1, 5, .inl (fun _ => 0))), ((ma 19), .inl (cy 1, 45, .inl (fun _ => 0))), ((ma 21), .inl (cy 1, 150, .inl (fun _ => 0))), ((ma 22), .inl (cy 1, 5, .inl (fun _ => 0))), ((ma 23), .inl (cy 1, 120, .inl (fun _ => 0))), ((ma 24), .inl (cy 1, 30, .inl (fun _ => 0))), ((ma 25), .inl (cy 3, 15, .inl (fun _ => 0))), ((ma 26), .inl (cy 1, 5, .inl (fun _ => 0))), ((ma 27), .inl (cy 1, 30, .inl (fun _ => 0))), ((ma 28), .inl (cy 3, 3, .inl (fun _ => 0)))]) (runV (As := [.int (xs 1), .int (xs 2), .int (xs 3)]) (rest := [.long (-1000000000000)]) ⟨hx, hb, hml, hown, hts⟩ (g_X10_shares l D cy ma (xs 1) (xs 2) (xs 3)  H.size) sV_L_126 hK (va_recv hK.1 hP (ci := 10) (q0 := 6) rfl rfl) (PW.of hP hD [6, 15, 13, 12] (by decide) rfl rfl) ⟨Nat.le_of_ble_eq_true rfl, Nat.le_of_ble_eq_true rfl⟩ rfl hl.1 rfl (Nat.le_of_ble_eq_true rfl) dL_law_1237 ⟨Nat.le_of_ble_eq_true rfl, Nat.le_of_ble_eq_true rfl⟩) hP hD hS hA [6, 15, 13, 12] [0, 1, 2, 3, 4, 5, 7, 8, 9, 10, 11, 14, 16, 17, 18, 19, 20, 21, 22, 23] rfl rfl (by decide) (by decide) (fun v u_8 H locs hv hP hD hS => ?_)
  have hP : va_P D vwCl [((xa 0), .inr (9, [.ref (xa 1), .ref (xa 2), .ref (xa 3), .ref (xa 4), .ref (xa 5), .ref (xa 6), .ref (xa 7), .ref (xa 8), .ref (xa 9), .int 0, .ref (xa 11), .null, .int 0, .int (-1)])), ((xa 1), .inl (cy 0, 1600, .inl (fun _ => 0))), ((xa 2), .inr (4, [.int 0, .int (-1), .ref (xa 30), .int 0, .int 0, .int 0, .int 0, .int 0, .ref (xa 31), .int 0, .int 0, .int 0])), ((xa 8), .inl (cy 4, 4, .inr (.inr (.inr (.inr (fun _ => none)))))), ((xa 9), .inl (cy 5, 3, .inr (.inr (.inr (.inr (fun _ => none)))))), ((xa 11), .inr (2, [.int 0, .int 0, .int 0, .int 0, .int 0, .int 0, .int 0, .int 0, .int 1, .int 10, .int 0, .int 0, .int 0, .int 0, .ref (xa 20), .ref (xa 21), .ref (xa 22), .ref (xa 23), .ref (xa 24), .ref (xa 25), .ref (xa 26)])), ((ma 1), .inl (cy 1, 4, .inl fw)), ((ma 2), .inl (cy 1, 4, .inl (fun _ => 0))), ((ma 3), .inl (cy 2, 240, .inr (.inl (fun _ => 0)))), ((ma 5), .inl (cy 0, 1600, .inl (fun _ => 0))), ((ma 16), .inl (cy 1, 5, .inl (fun _ => 0))), ((ma 19), .inl (cy 1, 45, .inl (fun _ => 0))), ((ma 21), .inl (cy 1, 150, .inl (fun _ => 0))), ((ma 22), .inl (cy 1, 5, .inl (fun _ => 0))), ((ma 23), .inl (cy 1, 120, .inl (fun _ => 0))), ((ma 24), .inl (cy 1, 30, .inl (fun _ => 0))), ((ma 25), .inl (cy 3, 15, .inl (fun _ => 0))), ((ma 26), .inl (cy 1, 5, .inl (fun _ => 0))), ((ma 27), .inl (cy 1, 30, .inl (fun _ => 0))), ((ma 28), .inl (cy 3, 3, .inl (fun _ => 0)))] H := hP
  have hD : va_D A [((xa 0), .inr (9, [.ref (xa 1), .ref (xa 2), .ref (xa 3), .ref (xa 4), .ref (xa 5), .ref (xa 6), .ref (xa 7), .ref (xa 8), .ref (xa 9), .int 0, .ref (xa 11), .null, .int 0, .int (-1)])), ((xa 1), .inl (cy 0, 1600, .inl (fun _ => 0))), ((xa 2), .inr (4, [.int 0, .int (-1), .ref (xa 30), .int 0, .int 0, .int 0, .int 0, .int 0, .ref (xa 31), .int 0, .int 0, .int 0])), ((xa 8), .inl (cy 4, 4, .inr (.inr (.inr (.inr (fun _ => none)))))), ((xa 9), .inl (cy 5, 3, .inr (.inr (.inr (.inr (fun _ => none)))))), ((xa 11), .inr (2, [.int 0, .int 0, .int 0, .int 0, .int 0, .int 0, .int 0, .int 0, .int 1, .int 10, .int 0, .int 0, .int 0, .int 0, .ref (xa 20), .ref (xa 21), .ref (xa 22), .ref (xa 23), .ref (xa 24), .ref (xa 25), .ref (xa 26)])), ((ma 1), .inl (cy 1, 4, .inl fw)), ((ma 2), .inl (cy 1, 4, .inl (fun _ => 0))), ((ma 3), .inl (cy 2, 240, .inr (.inl (fun _ => 0)))), ((ma 5), .inl (cy 0, 1600, .inl (fun _ => 0))), ((ma 16), .inl (cy 1, 5, .inl (fun _ => 0))), ((ma 19), .inl (cy 1, 45, .inl (fun _ => 0))), ((ma 21), .inl (cy 1, 150, .inl (fun _ => 0))), ((ma 22), .inl (cy 1, 5, .inl (fun _ => 0))), ((ma 23), .inl (cy 1, 120, .inl (fun _ => 0))), ((ma 24), .inl (cy 1, 30, .inl (fun _ => 0))), ((ma 25), .inl (cy 3, 15, .inl (fun _ => 0))), ((ma 26), .inl (cy 1, 5, .inl (fun _ => 0))), ((ma 27), .inl (cy 1, 30, .inl (fun _ => 0))), ((ma 28), .inl (cy 3, 3, .inl (fun _ => 0)))] := hD
  obtain ⟨r_9, rfl, hr_9⟩ := hv
  have er_9 := hr_9
  subst er_9
  refine W.eq (g2 := F0 m 1240 ls [.long (-1000000000000), .long (-1000000000000)]) rfl ?_
  refine W.lcmp hx hb dL_law_1240 ?_
  refine lv_topi (fun z_10 ez_10 => ?_)
  have ez_10 : z_10 = 0 := ez_10.trans (by decide)
  subst ez_10
  refine lv_if_eq (tgt := 2286) hx hb dL_law_1241 (by decide) (fun _ => ?_) (fun c_11 => absurd (by decide) c_11)
  exact law_end C0 hL7 hA2 hbA hS (lv_sub hl [0, 1, 2, 3] rfl) (Nat.le_of_ble_eq_true rfl) (Nat.le_of_ble_eq_true rfl)
set_option maxHeartbeats 4000000 in
set_option maxRecDepth 100000 in
theorem lc_26 {p : Program} {e : Env} {s : State} {m : MethodId} {below : List Frame} {meth : Method} {c : Code} {l : Launch} {b L : Nat} {xs : Nat → Int32} {A : Nat → Prop} (D : va_G) (cy : Nat → ClassId) (xa ma : Nat → Nat) (fw : Nat → Int32) (hw : ∀ k : Nat, k < 4 → fw k = -1) (hL7 : L = 7) (C0 : lw_At p s m meth c b L xs) (hK : KK D cy s) (hA : ∀ q : Nat, s.heap.size ≤ q → A q) (hA2 : ∀ q : Nat, A q → s.heap.size ≤ q) (hbA : ¬ A b) {H : Heap} {locs : List Loc} (hP : va_P D vwCl [((xa 0), .inr (9, [.ref (xa 1), .ref (xa 2), .ref (xa 3), .ref (xa 4), .ref (xa 5), .ref (xa 6), .ref (xa 7), .ref (xa 8), .ref (xa 9), .int 0, .ref (xa 11), .null, .int 0, .int (-1)])), ((xa 1), .inl (cy 0, 1600, .inl (fun _ => 0))), ((xa 2), .inr (4, [.int 0, .int (-1), .ref (xa 30), .int 0, .int 0, .int 0, .int 0, .int 0, .ref (xa 31), .int 0, .int 0, .int 0])), ((xa 8), .inl (cy 4, 4, .inr (.inr (.inr (.inr (fun _ => none)))))), ((xa 9), .inl (cy 5, 3, .inr (.inr (.inr (.inr (fun _ => none)))))), ((xa 11), .inr (2, [.int 0, .int 0, .int 0, .int 0, .int 0, .int 0, .int 0, .int 0, .int 1, .int 10, .int 0, .int 0, .int 0, .int 0, .ref (xa 20), .ref (xa 21), .ref (xa 22), .ref (xa 23), .ref (xa 24), .ref (xa 25), .ref (xa 26)])), ((ma 0), .inr (10, [.int 0, .ref (ma 1), .ref (ma 2), .ref (ma 3), .ref (ma 4), .ref (ma 5), .int 0, .int 0, .int 0, .int 0, .int 0, .long 0, .int 0, .int 0, .int 0, .int (-1), .ref (ma 16), .ref (ma 17), .ref (ma 18), .ref (ma 19), .ref (ma 20), .ref (ma 21), .ref (ma 22), .ref (ma 23), .ref (ma 24), .ref (ma 25), .ref (ma 26), .ref (ma 27), .ref (ma 28), .ref (ma 29), .ref (ma 30), .ref (ma 31), .ref (ma 32), .ref (ma 33), .ref (ma 34), .ref (ma 35), .ref (ma 36), .ref (ma 37), .ref (ma 38), .ref (ma 39), .ref (ma 40), .ref (ma 41), .long 0])), ((ma 1), .inl (cy 1, 4, .inl fw)), ((ma 2), .inl (cy 1, 4, .inl (fun _ => 0))), ((ma 3), .inl (cy 2, 240, .inr (.inl (fun _ => 0)))), ((ma 5), .inl (cy 0, 1600, .inl (fun _ => 0))), ((ma 16), .inl (cy 1, 5, .inl (fun _ => 0))), ((ma 17), .inl (cy 1, 20, .inl (fun _ => 0))), ((ma 18), .inl (cy 1, 5, .inl (fun _ => 0))), ((ma 19), .inl (cy 1, 45, .inl (fun _ => 0))), ((ma 20), .inl (cy 1, 5, .inl (fun _ => 0))), ((ma 21), .inl (cy 1, 150, .inl (fun _ => 0))), ((ma 22), .inl (cy 1, 5, .inl (fun _ => 0))), ((ma 23), .inl (cy 1, 120, .inl (fun _ => 0))), ((ma 24), .inl (cy 1, 30, .inl (fun _ => 0))), ((ma 25), .inl (cy 3, 15, .inl (fun _ => 0))), ((ma 26), .inl (cy 1, 5, .inl (fun _ => 0))), ((ma 27), .inl (cy 1, 30, .inl (fun _ => 0))), ((ma 28), .inl (cy 3, 3, .inl (fun _ => 0)))] H) (hD : va_D A [((xa 0), .inr (9, [.ref (xa 1), .ref (xa 2), .ref (xa 3), .ref (xa 4), .ref (xa 5), .ref (xa 6), .ref (xa 7), .ref (xa 8), .ref (xa 9), .int 0, .ref (xa 11), .null, .int 0, .int (-1)])), ((xa 1), .inl (cy 0, 1600, .inl (fun _ => 0))), ((xa 2), .inr (4, [.int 0, .int (-1), .ref (xa 30), .int 0, .int 0, .int 0, .int 0, .int 0, .ref (xa 31), .int 0, .int 0, .int 0])), ((xa 8), .inl (cy 4, 4, .inr (.inr (.inr (.inr (fun _ => none)))))), ((xa 9), .inl (cy 5, 3, .inr (.inr (.inr (.inr (fun _ => none)))))), ((xa 11), .inr (2, [.int 0, .int 0, .int 0, .int 0, .int 0, .int 0, .int 0, .int 0, .int 1, .int 10, .int 0, .int 0, .int 0, .int 0, .ref (xa 20), .ref (xa 21), .ref (xa 22), .ref (xa 23), .ref (xa 24), .ref (xa 25), .ref (xa 26)])), ((ma 0), .inr (10, [.int 0, .ref (ma 1), .ref (ma 2), .ref (ma 3), .ref (ma 4), .ref (ma 5), .int 0, .int 0, .int 0, .int 0, .int 0, .long 0, .int 0, .int 0, .int 0, .int (-1), .ref (ma 16), .ref (ma 17), .ref (ma 18), .ref (ma 19), .ref (ma 20), .ref (ma 21), .ref (ma 22), .ref (ma 23), .ref (ma 24), .ref (ma 25), .ref (ma 26), .ref (ma 27), .ref (ma 28), .ref (ma 29), .ref (ma 30), .ref (ma 31), .ref (ma 32), .ref (ma 33), .ref (ma 34), .ref (ma 35), .ref (ma 36), .ref (ma 37), .ref (ma 38), .ref (ma 39), .ref (ma 40), .ref (ma 41), .long 0])), ((ma 1), .inl (cy 1, 4, .inl fw)), ((ma 2), .inl (cy 1, 4, .inl (fun _ => 0))), ((ma 3), .inl (cy 2, 240, .inr (.inl (fun _ => 0)))), ((ma 5), .inl (cy 0, 1600, .inl (fun _ => 0))), ((ma 16), .inl (cy 1, 5, .inl (fun _ => 0))), ((ma 17), .inl (cy 1, 20, .inl (fun _ => 0))), ((ma 18), .inl (cy 1, 5, .inl (fun _ => 0))), ((ma 19), .inl (cy 1, 45, .inl (fun _ => 0))), ((ma 20), .inl (cy 1, 5, .inl (fun _ => 0))), ((ma 21), .inl (cy 1, 150, .inl (fun _ => 0))), ((ma 22), .inl (cy 1, 5, .inl (fun _ => 0))), ((ma 23), .inl (cy 1, 120, .inl (fun _ => 0))), ((ma 24), .inl (cy 1, 30, .inl (fun _ => 0))), ((ma 25), .inl (cy 3, 15, .inl (fun _ => 0))), ((ma 26), .inl (cy 1, 5, .inl (fun _ => 0))), ((ma 27), .inl (cy 1, 30, .inl (fun _ => 0))), ((ma 28), .inl (cy 3, 3, .inl (fun _ => 0)))]) (hS : va_S A s.heap H locs) {ls : Array Slot} (hl : lv_has ls 4 [(3, .int 0), (2, .ref (ma 0)), (1, .ref (xa 0)), (0, .ref b)]) : W p l e room_1 s m #[Value.ref b] below meth c H locs 82 108979 (lw_Z below #[Value.ref b] s) (F0 m 1246 ls []) := by
  obtain ⟨hx, hb, hr, hml, hown, hts, hX, hbl, hlocks, hgv⟩ := id C0
  have hown : s.vm.findClass RL = some m.cls := hown
  have hb : c.code = cL_law := hb
  have hts : ∀ w ∈ GW, w.before #[Value.ref b] s = true := fun w h => hts w (gw_tbl w h)
  refine lv_aload_n hx hb dL_law_1246 rfl (lv_at hl 2 rfl) ?_
  refine lv_aload_n hx hb dL_law_1247 rfl (lv_at hl 3 rfl) ?_
  refine lv_iload_n hx hb dL_law_1248 rfl (lv_at hl 0 rfl) ?_
  refine lv_iconst (v := 1) hx hb dL_law_1249 (by decide) ?_
  refine lv_iadd hx hb dL_law_1250 ?_
  refine lv_topi (fun z_1 ez_1 => ?_)
  have ez_1 : z_1 = 1 := ez_1.trans (by decide)
  subst ez_1
  refine va_sld (i := 1) hx hb hX hbl hbA hS (by subst hL7; exact vp_in_iff.mpr (by decide)) dL_law_1251 ?_
  refine W.eq (g2 := F0 m 1252 ls [.int (xs 1), .ref (xa 0)]) rfl ?_
  refine lv_aload_n hx hb dL_law_1252 rfl (lv_at hl 3 rfl) ?_
  refine lv_iload_n hx hb dL_law_1253 rfl (lv_at hl 0 rfl) ?_
  refine lv_iconst (v := 2) hx hb dL_law_1254 (by decide) ?_
  refine lv_iadd hx hb dL_law_1255 ?_
  refine lv_topi (fun z_2 ez_2 => ?_)
  have ez_2 : z_2 = 2 := ez_2.trans (by decide)
  subst ez_2
  refine va_sld (i := 2) hx hb hX hbl hbA hS (by subst hL7; exact vp_in_iff.mpr (by decide)) dL_law_1256 ?_
  refine W.eq (g2 := F0 m 1257 ls [.int (xs 2), .int (xs 1), .ref (xa 0)]) rfl ?_
  refine lv_aload_n hx hb dL_law_1257 rfl (lv_at hl 3 rfl) ?_
  refine lv_iload_n hx hb dL_law_1258 rfl (lv_at hl 0 rfl) ?_
  refine lv_iconst (v := 3) hx hb dL_law_1259 (by decide) ?_
  refine lv_iadd hx hb dL_law_1260 ?_
  refine lv_topi (fun z_3 ez_3 => ?_)
  have ez_3 : z_3 = 3 := ez_3.trans (by decide)
  subst ez_3
  refine va_sld (i := 3) hx hb hX hbl hbA hS (by subst hL7; exact vp_in_iff.mpr (by decide)) dL_law_1261 ?_
  refine W.eq (g2 := F0 m 1262 ls [.int (xs 3), .int (xs 2), .int (xs 1), .ref (xa 0)]) rfl ?_
  refine pu_calll (runV (As := [.int (xs 1), .int (xs 2), .int (xs 3)]) (rest := []) ⟨hx, hb, hml, hown, hts⟩ (f_X9_flown l D cy xa (xs 1) (xs 2) (xs 3) ) sV_L_127 hK (va_recv hK.1 hP (ci := 9) (q0 := 0) rfl rfl) (hP.sub (ws' := [((xa 0), .inr (9, [.ref (xa 1), .ref (xa 2), .ref (xa 3), .ref (xa 4), .ref (xa 5), .ref (xa 6), .ref (xa 7), .ref (xa 8), .ref (xa 9), .int 0, .ref (xa 11), .null, .int 0, .int (-1)])), ((xa 11), .inr (2, [.int 0, .int 0, .int 0, .int 0, .int 0, .int 0, .int 0, .int 0, .int 1, .int 10, .int 0, .int 0, .int 0, .int 0, .ref (xa 20), .ref (xa 21), .ref (xa 22), .ref (xa 23), .ref (xa 24), .ref (xa 25), .ref (xa 26)]))]) [0, 5] rfl) ⟨Nat.le_of_ble_eq_true rfl, Nat.le_of_ble_eq_true rfl⟩ rfl hl.1 rfl (Nat.le_of_ble_eq_true rfl) dL_law_1262 ⟨Nat.le_of_ble_eq_true rfl, Nat.le_of_ble_eq_true rfl⟩) (fun r_4 hr_4 => ?_)
  have er_4 := hr_4
  subst er_4
  refine W.eq (g2 := F0 m 1265 ls [.long (-2)]) rfl ?_
  refine lv_aload_n hx hb dL_law_1265 rfl (lv_at hl 1 rfl) ?_
  refine lv_aload_n hx hb dL_law_1266 rfl (lv_at hl 3 rfl) ?_
  refine lv_iload_n hx hb dL_law_1267 rfl (lv_at hl 0 rfl) ?_
  refine lv_iconst (v := 1) hx hb dL_law_1268 (by decide) ?_
  refine lv_iadd hx hb dL_law_1269 ?_
  refine lv_topi (fun z_5 ez_5 => ?_)
  have ez_5 : z_5 = 1 := ez_5.trans (by decide)
  subst ez_5
  refine va_sld (i := 1) hx hb hX hbl hbA hS (by subst hL7; exact vp_in_iff.mpr (by decide)) dL_law_1270 ?_
  refine W.eq (g2 := F0 m 1271 ls [.int (xs 1), .ref (ma 0), .long (-2)]) rfl ?_
  refine lv_aload_n hx hb dL_law_1271 rfl (lv_at hl 3 rfl) ?_
  refine lv_iload_n hx hb dL_law_1272 rfl (lv_at hl 0 rfl) ?_
  refine lv_iconst (v := 2) hx hb dL_law_1273 (by decide) ?_
  refine lv_iadd hx hb dL_law_1274 ?_
  refine lv_topi (fun z_6 ez_6 => ?_)
  have ez_6 : z_6 = 2 := ez_6.trans (by decide)
  subst ez_6
  refine va_sld (i := 2) hx hb hX hbl hbA hS (by subst hL7; exact vp_in_iff.mpr (by decide)) dL_law_1275 ?_
  refine W.eq (g2 := F0 m 1276 ls [.int (xs 2), .int (xs 1), .ref (ma 0), .long (-2)]) rfl ?_
  refine lv_aload_n hx hb dL_law_1276 rfl (lv_at hl 3 rfl) ?_
  refine lv_iload_n hx hb dL_law_1277 rfl (lv_at hl 0 rfl) ?_
  refine lv_iconst (v := 3) hx hb dL_law_1278 (by decide) ?_
  refine lv_iadd hx hb dL_law_1279 ?_
  refine lv_topi (fun z_7 ez_7 => ?_)
  have ez_7 : z_7 = 3 := ez_7.trans (by decide)
  subst ez_7
  refine va_sld (i := 3) hx hb hX hbl hbA hS (by subst hL7; exact vp_in_iff.mpr (by decide)) dL_law_1280 ?_
  refine W.eq (g2 := F0 m 1281 ls [.int (xs 3), .int (xs 2), .int (xs 1), .ref (ma 0), .long (-2)]) rfl ?_
  refine fw_call (wc := [((ma 0), .inr (10, [.int 0, .ref (ma 1), .ref (ma 2), .ref (ma 3), .ref (ma 4), .ref (ma 5), .int 0, .int 0, .int 0, .int 0, .int 0, .long 0, .int 0, .int 0, .int 0, .int (-1), .ref (ma 16), .ref (ma 17), .ref (ma 18), .ref (ma 19), .ref (ma 20), .ref (ma 21), .ref (ma 22), .ref (ma 23), .ref (ma 24), .ref (ma 25), .ref (ma 26), .ref (ma 27), .ref (ma 28), .ref (ma 29), .ref (ma 30), .ref (ma 31), .ref (ma 32), .ref (ma 33), .ref (ma 34), .ref (ma 35), .ref (ma 36), .ref (ma 37), .ref (ma 38), .ref (ma 39), .ref (ma 40), .ref (ma 41), .long 0])), ((ma 20), .inl (cy 1, 5, .inl (fun _ => 0))), ((ma 18), .inl (cy 1, 5, .inl (fun _ => 0))), ((ma 17), .inl (cy 1, 20, .inl (fun _ => 0)))]) (wr := [((xa 0), .inr (9, [.ref (xa 1), .ref (xa 2), .ref (xa 3), .ref (xa 4), .ref (xa 5), .ref (xa 6), .ref (xa 7), .ref (xa 8), .ref (xa 9), .int 0, .ref (xa 11), .null, .int 0, .int (-1)])), ((xa 1), .inl (cy 0, 1600, .inl (fun _ => 0))), ((xa 2), .inr (4, [.int 0, .int (-1), .ref (xa 30), .int 0, .int 0, .int 0, .int 0, .int 0, .ref (xa 31), .int 0, .int 0, .int 0])), ((xa 8), .inl (cy 4, 4, .inr (.inr (.inr (.inr (fun _ => none)))))), ((xa 9), .inl (cy 5, 3, .inr (.inr (.inr (.inr (fun _ => none)))))), ((xa 11), .inr (2, [.int 0, .int 0, .int 0, .int 0, .int 0, .int 0, .int 0, .int 0, .int 1, .int 10, .int 0, .int 0, .int 0, .int 0, .ref (xa 20), .ref (xa 21), .ref (xa 22), .ref (xa 23), .ref (xa 24), .ref (xa 25), .ref (xa 26)])), ((ma 1), .inl (cy 1, 4, .inl fw)), ((ma 2), .inl (cy 1, 4, .inl (fun _ => 0))), ((ma 3), .inl (cy 2, 240, .inr (.inl (fun _ => 0)))), ((ma 5), .inl (cy 0, 1600, .inl (fun _ => 0))), ((ma 16), .inl (cy 1, 5, .inl (fun _ => 0))), ((ma 19), .inl (cy 1, 45, .inl (fun _ => 0))), ((ma 21), .inl (cy 1, 150, .inl (fun _ => 0))), ((ma 22), .inl (cy 1, 5, .inl (fun _ => 0))), ((ma 23), .inl (cy 1, 120, .inl (fun _ => 0))), ((ma 24), .inl (cy 1, 30, .inl (fun _ => 0))), ((ma 25), .inl (cy 3, 15, .inl (fun _ => 0))), ((ma 26), .inl (cy 1, 5, .inl (fun _ => 0))), ((ma 27), .inl (cy 1, 30, .inl (fun _ => 0))), ((ma 28), .inl (cy 3, 3, .inl (fun _ => 0)))]) (runV (As := [.int (xs 1), .int (xs 2), .int (xs 3)]) (rest := [.long (-2)]) ⟨hx, hb, hml, hown, hts⟩ (g_X10_flown l D cy ma (xs 1) (xs 2) (xs 3)  H.size) sV_L_130 hK (va_recv hK.1 hP (ci := 10) (q0 := 6) rfl rfl) (PW.of hP hD [6, 15, 13, 12] (by decide) rfl rfl) ⟨Nat.le_of_ble_eq_true rfl, Nat.le_of_ble_eq_true rfl⟩ rfl hl.1 rfl (Nat.le_of_ble_eq_true rfl) dL_law_1281 ⟨Nat.le_of_ble_eq_true rfl, Nat.le_of_ble_eq_true rfl⟩) hP hD hS hA [6, 15, 13, 12] [0, 1, 2, 3, 4, 5, 7, 8, 9, 10, 11, 14, 16, 17, 18, 19, 20, 21, 22, 23] rfl rfl (by decide) (by decide) (fun v u_8 H locs hv hP hD hS => ?_)
  have hP : va_P D vwCl [((xa 0), .inr (9, [.ref (xa 1), .ref (xa 2), .ref (xa 3), .ref (xa 4), .ref (xa 5), .ref (xa 6), .ref (xa 7), .ref (xa 8), .ref (xa 9), .int 0, .ref (xa 11), .null, .int 0, .int (-1)])), ((xa 1), .inl (cy 0, 1600, .inl (fun _ => 0))), ((xa 2), .inr (4, [.int 0, .int (-1), .ref (xa 30), .int 0, .int 0, .int 0, .int 0, .int 0, .ref (xa 31), .int 0, .int 0, .int 0])), ((xa 8), .inl (cy 4, 4, .inr (.inr (.inr (.inr (fun _ => none)))))), ((xa 9), .inl (cy 5, 3, .inr (.inr (.inr (.inr (fun _ => none)))))), ((xa 11), .inr (2, [.int 0, .int 0, .int 0, .int 0, .int 0, .int 0, .int 0, .int 0, .int 1, .int 10, .int 0, .int 0, .int 0, .int 0, .ref (xa 20), .ref (xa 21), .ref (xa 22), .ref (xa 23), .ref (xa 24), .ref (xa 25), .ref (xa 26)])), ((ma 1), .inl (cy 1, 4, .inl fw)), ((ma 2), .inl (cy 1, 4, .inl (fun _ => 0))), ((ma 3), .inl (cy 2, 240, .inr (.inl (fun _ => 0)))), ((ma 5), .inl (cy 0, 1600, .inl (fun _ => 0))), ((ma 16), .inl (cy 1, 5, .inl (fun _ => 0))), ((ma 19), .inl (cy 1, 45, .inl (fun _ => 0))), ((ma 21), .inl (cy 1, 150, .inl (fun _ => 0))), ((ma 22), .inl (cy 1, 5, .inl (fun _ => 0))), ((ma 23), .inl (cy 1, 120, .inl (fun _ => 0))), ((ma 24), .inl (cy 1, 30, .inl (fun _ => 0))), ((ma 25), .inl (cy 3, 15, .inl (fun _ => 0))), ((ma 26), .inl (cy 1, 5, .inl (fun _ => 0))), ((ma 27), .inl (cy 1, 30, .inl (fun _ => 0))), ((ma 28), .inl (cy 3, 3, .inl (fun _ => 0)))] H := hP
  have hD : va_D A [((xa 0), .inr (9, [.ref (xa 1), .ref (xa 2), .ref (xa 3), .ref (xa 4), .ref (xa 5), .ref (xa 6), .ref (xa 7), .ref (xa 8), .ref (xa 9), .int 0, .ref (xa 11), .null, .int 0, .int (-1)])), ((xa 1), .inl (cy 0, 1600, .inl (fun _ => 0))), ((xa 2), .inr (4, [.int 0, .int (-1), .ref (xa 30), .int 0, .int 0, .int 0, .int 0, .int 0, .ref (xa 31), .int 0, .int 0, .int 0])), ((xa 8), .inl (cy 4, 4, .inr (.inr (.inr (.inr (fun _ => none)))))), ((xa 9), .inl (cy 5, 3, .inr (.inr (.inr (.inr (fun _ => none)))))), ((xa 11), .inr (2, [.int 0, .int 0, .int 0, .int 0, .int 0, .int 0, .int 0, .int 0, .int 1, .int 10, .int 0, .int 0, .int 0, .int 0, .ref (xa 20), .ref (xa 21), .ref (xa 22), .ref (xa 23), .ref (xa 24), .ref (xa 25), .ref (xa 26)])), ((ma 1), .inl (cy 1, 4, .inl fw)), ((ma 2), .inl (cy 1, 4, .inl (fun _ => 0))), ((ma 3), .inl (cy 2, 240, .inr (.inl (fun _ => 0)))), ((ma 5), .inl (cy 0, 1600, .inl (fun _ => 0))), ((ma 16), .inl (cy 1, 5, .inl (fun _ => 0))), ((ma 19), .inl (cy 1, 45, .inl (fun _ => 0))), ((ma 21), .inl (cy 1, 150, .inl (fun _ => 0))), ((ma 22), .inl (cy 1, 5, .inl (fun _ => 0))), ((ma 23), .inl (cy 1, 120, .inl (fun _ => 0))), ((ma 24), .inl (cy 1, 30, .inl (fun _ => 0))), ((ma 25), .inl (cy 3, 15, .inl (fun _ => 0))), ((ma 26), .inl (cy 1, 5, .inl (fun _ => 0))), ((ma 27), .inl (cy 1, 30, .inl (fun _ => 0))), ((ma 28), .inl (cy 3, 3, .inl (fun _ => 0)))] := hD
  obtain ⟨r_9, rfl, hr_9⟩ := hv
  have er_9 := hr_9
  subst er_9
  refine W.eq (g2 := F0 m 1284 ls [.long (-2), .long (-2)]) rfl ?_
  refine W.lcmp hx hb dL_law_1284 ?_
  refine lv_topi (fun z_10 ez_10 => ?_)
  have ez_10 : z_10 = 0 := ez_10.trans (by decide)
  subst ez_10
  refine lv_if_eq (tgt := 2286) hx hb dL_law_1285 (by decide) (fun _ => ?_) (fun c_11 => absurd (by decide) c_11)
  exact law_end C0 hL7 hA2 hbA hS (lv_sub hl [0, 1, 2, 3] rfl) (Nat.le_of_ble_eq_true rfl) (Nat.le_of_ble_eq_true rfl)
set_option maxHeartbeats 4000000 in
set_option maxRecDepth 100000 in
theorem lc_27 {p : Program} {e : Env} {s : State} {m : MethodId} {below : List Frame} {meth : Method} {c : Code} {l : Launch} {b L : Nat} {xs : Nat → Int32} {A : Nat → Prop} (D : va_G) (cy : Nat → ClassId) (xa ma : Nat → Nat) (fw : Nat → Int32) (hw : ∀ k : Nat, k < 4 → fw k = -1) (hL7 : L = 7) (C0 : lw_At p s m meth c b L xs) (hK : KK D cy s) (hA : ∀ q : Nat, s.heap.size ≤ q → A q) (hA2 : ∀ q : Nat, A q → s.heap.size ≤ q) (hbA : ¬ A b) {H : Heap} {locs : List Loc} (hP : va_P D vwCl [((xa 0), .inr (9, [.ref (xa 1), .ref (xa 2), .ref (xa 3), .ref (xa 4), .ref (xa 5), .ref (xa 6), .ref (xa 7), .ref (xa 8), .ref (xa 9), .int 0, .ref (xa 11), .null, .int 0, .int (-1)])), ((xa 1), .inl (cy 0, 1600, .inl (fun _ => 0))), ((xa 2), .inr (4, [.int 0, .int (-1), .ref (xa 30), .int 0, .int 0, .int 0, .int 0, .int 0, .ref (xa 31), .int 0, .int 0, .int 0])), ((xa 8), .inl (cy 4, 4, .inr (.inr (.inr (.inr (fun _ => none)))))), ((xa 9), .inl (cy 5, 3, .inr (.inr (.inr (.inr (fun _ => none)))))), ((xa 11), .inr (2, [.int 0, .int 0, .int 0, .int 0, .int 0, .int 0, .int 0, .int 0, .int 1, .int 10, .int 0, .int 0, .int 0, .int 0, .ref (xa 20), .ref (xa 21), .ref (xa 22), .ref (xa 23), .ref (xa 24), .ref (xa 25), .ref (xa 26)])), ((ma 0), .inr (10, [.int 0, .ref (ma 1), .ref (ma 2), .ref (ma 3), .ref (ma 4), .ref (ma 5), .int 0, .int 0, .int 0, .int 0, .int 0, .long 0, .int 0, .int 0, .int 0, .int (-1), .ref (ma 16), .ref (ma 17), .ref (ma 18), .ref (ma 19), .ref (ma 20), .ref (ma 21), .ref (ma 22), .ref (ma 23), .ref (ma 24), .ref (ma 25), .ref (ma 26), .ref (ma 27), .ref (ma 28), .ref (ma 29), .ref (ma 30), .ref (ma 31), .ref (ma 32), .ref (ma 33), .ref (ma 34), .ref (ma 35), .ref (ma 36), .ref (ma 37), .ref (ma 38), .ref (ma 39), .ref (ma 40), .ref (ma 41), .long 0])), ((ma 1), .inl (cy 1, 4, .inl fw)), ((ma 2), .inl (cy 1, 4, .inl (fun _ => 0))), ((ma 3), .inl (cy 2, 240, .inr (.inl (fun _ => 0)))), ((ma 5), .inl (cy 0, 1600, .inl (fun _ => 0))), ((ma 16), .inl (cy 1, 5, .inl (fun _ => 0))), ((ma 17), .inl (cy 1, 20, .inl (fun _ => 0))), ((ma 18), .inl (cy 1, 5, .inl (fun _ => 0))), ((ma 19), .inl (cy 1, 45, .inl (fun _ => 0))), ((ma 20), .inl (cy 1, 5, .inl (fun _ => 0))), ((ma 21), .inl (cy 1, 150, .inl (fun _ => 0))), ((ma 22), .inl (cy 1, 5, .inl (fun _ => 0))), ((ma 23), .inl (cy 1, 120, .inl (fun _ => 0))), ((ma 24), .inl (cy 1, 30, .inl (fun _ => 0))), ((ma 25), .inl (cy 3, 15, .inl (fun _ => 0))), ((ma 26), .inl (cy 1, 5, .inl (fun _ => 0))), ((ma 27), .inl (cy 1, 30, .inl (fun _ => 0))), ((ma 28), .inl (cy 3, 3, .inl (fun _ => 0)))] H) (hD : va_D A [((xa 0), .inr (9, [.ref (xa 1), .ref (xa 2), .ref (xa 3), .ref (xa 4), .ref (xa 5), .ref (xa 6), .ref (xa 7), .ref (xa 8), .ref (xa 9), .int 0, .ref (xa 11), .null, .int 0, .int (-1)])), ((xa 1), .inl (cy 0, 1600, .inl (fun _ => 0))), ((xa 2), .inr (4, [.int 0, .int (-1), .ref (xa 30), .int 0, .int 0, .int 0, .int 0, .int 0, .ref (xa 31), .int 0, .int 0, .int 0])), ((xa 8), .inl (cy 4, 4, .inr (.inr (.inr (.inr (fun _ => none)))))), ((xa 9), .inl (cy 5, 3, .inr (.inr (.inr (.inr (fun _ => none)))))), ((xa 11), .inr (2, [.int 0, .int 0, .int 0, .int 0, .int 0, .int 0, .int 0, .int 0, .int 1, .int 10, .int 0, .int 0, .int 0, .int 0, .ref (xa 20), .ref (xa 21), .ref (xa 22), .ref (xa 23), .ref (xa 24), .ref (xa 25), .ref (xa 26)])), ((ma 0), .inr (10, [.int 0, .ref (ma 1), .ref (ma 2), .ref (ma 3), .ref (ma 4), .ref (ma 5), .int 0, .int 0, .int 0, .int 0, .int 0, .long 0, .int 0, .int 0, .int 0, .int (-1), .ref (ma 16), .ref (ma 17), .ref (ma 18), .ref (ma 19), .ref (ma 20), .ref (ma 21), .ref (ma 22), .ref (ma 23), .ref (ma 24), .ref (ma 25), .ref (ma 26), .ref (ma 27), .ref (ma 28), .ref (ma 29), .ref (ma 30), .ref (ma 31), .ref (ma 32), .ref (ma 33), .ref (ma 34), .ref (ma 35), .ref (ma 36), .ref (ma 37), .ref (ma 38), .ref (ma 39), .ref (ma 40), .ref (ma 41), .long 0])), ((ma 1), .inl (cy 1, 4, .inl fw)), ((ma 2), .inl (cy 1, 4, .inl (fun _ => 0))), ((ma 3), .inl (cy 2, 240, .inr (.inl (fun _ => 0)))), ((ma 5), .inl (cy 0, 1600, .inl (fun _ => 0))), ((ma 16), .inl (cy 1, 5, .inl (fun _ => 0))), ((ma 17), .inl (cy 1, 20, .inl (fun _ => 0))), ((ma 18), .inl (cy 1, 5, .inl (fun _ => 0))), ((ma 19), .inl (cy 1, 45, .inl (fun _ => 0))), ((ma 20), .inl (cy 1, 5, .inl (fun _ => 0))), ((ma 21), .inl (cy 1, 150, .inl (fun _ => 0))), ((ma 22), .inl (cy 1, 5, .inl (fun _ => 0))), ((ma 23), .inl (cy 1, 120, .inl (fun _ => 0))), ((ma 24), .inl (cy 1, 30, .inl (fun _ => 0))), ((ma 25), .inl (cy 3, 15, .inl (fun _ => 0))), ((ma 26), .inl (cy 1, 5, .inl (fun _ => 0))), ((ma 27), .inl (cy 1, 30, .inl (fun _ => 0))), ((ma 28), .inl (cy 3, 3, .inl (fun _ => 0)))]) (hS : va_S A s.heap H locs) {ls : Array Slot} (hl : lv_has ls 4 [(3, .int 0), (2, .ref (ma 0)), (1, .ref (xa 0)), (0, .ref b)]) : W p l e room_1 s m #[Value.ref b] below meth c H locs 82 108979 (lw_Z below #[Value.ref b] s) (F0 m 1290 ls []) := by
  obtain ⟨hx, hb, hr, hml, hown, hts, hX, hbl, hlocks, hgv⟩ := id C0
  have hown : s.vm.findClass RL = some m.cls := hown
  have hb : c.code = cL_law := hb
  have hts : ∀ w ∈ GW, w.before #[Value.ref b] s = true := fun w h => hts w (gw_tbl w h)
  refine lv_aload_n hx hb dL_law_1290 rfl (lv_at hl 2 rfl) ?_
  refine lv_aload_n hx hb dL_law_1291 rfl (lv_at hl 3 rfl) ?_
  refine lv_iload_n hx hb dL_law_1292 rfl (lv_at hl 0 rfl) ?_
  refine lv_iconst (v := 1) hx hb dL_law_1293 (by decide) ?_
  refine lv_iadd hx hb dL_law_1294 ?_
  refine lv_topi (fun z_1 ez_1 => ?_)
  have ez_1 : z_1 = 1 := ez_1.trans (by decide)
  subst ez_1
  refine va_sld (i := 1) hx hb hX hbl hbA hS (by subst hL7; exact vp_in_iff.mpr (by decide)) dL_law_1295 ?_
  refine W.eq (g2 := F0 m 1296 ls [.int (xs 1), .ref (xa 0)]) rfl ?_
  refine lv_aload_n hx hb dL_law_1296 rfl (lv_at hl 3 rfl) ?_
  refine lv_iload_n hx hb dL_law_1297 rfl (lv_at hl 0 rfl) ?_
  refine lv_iconst (v := 2) hx hb dL_law_1298 (by decide) ?_
  refine lv_iadd hx hb dL_law_1299 ?_
  refine lv_topi (fun z_2 ez_2 => ?_)
  have ez_2 : z_2 = 2 := ez_2.trans (by decide)
  subst ez_2
  refine va_sld (i := 2) hx hb hX hbl hbA hS (by subst hL7; exact vp_in_iff.mpr (by decide)) dL_law_1300 ?_
  refine W.eq (g2 := F0 m 1301 ls [.int (xs 2), .int (xs 1), .ref (xa 0)]) rfl ?_
  refine pu_calli (runV (As := [.int (xs 1), .int (xs 2)]) (rest := []) ⟨hx, hb, hml, hown, hts⟩ (f_X9_plane l D cy xa (xs 1) (xs 2) ) sV_L_131 hK (va_recv hK.1 hP (ci := 9) (q0 := 0) rfl rfl) (hP.sub (ws' := [((xa 0), .inr (9, [.ref (xa 1), .ref (xa 2), .ref (xa 3), .ref (xa 4), .ref (xa 5), .ref (xa 6), .ref (xa 7), .ref (xa 8), .ref (xa 9), .int 0, .ref (xa 11), .null, .int 0, .int (-1)])), ((xa 11), .inr (2, [.int 0, .int 0, .int 0, .int 0, .int 0, .int 0, .int 0, .int 0, .int 1, .int 10, .int 0, .int 0, .int 0, .int 0, .ref (xa 20), .ref (xa 21), .ref (xa 22), .ref (xa 23), .ref (xa 24), .ref (xa 25), .ref (xa 26)]))]) [0, 5] rfl) ⟨Nat.le_of_ble_eq_true rfl, Nat.le_of_ble_eq_true rfl⟩ rfl hl.1 rfl (Nat.le_of_ble_eq_true rfl) dL_law_1301 ⟨Nat.le_of_ble_eq_true rfl, Nat.le_of_ble_eq_true rfl⟩) (fun r_3 hr_3 => ?_)
  have er_3 := hr_3
  subst er_3
  refine W.eq (g2 := F0 m 1304 ls [.int (-2)]) rfl ?_
  refine lv_aload_n hx hb dL_law_1304 rfl (lv_at hl 1 rfl) ?_
  refine lv_aload_n hx hb dL_law_1305 rfl (lv_at hl 3 rfl) ?_
  refine lv_iload_n hx hb dL_law_1306 rfl (lv_at hl 0 rfl) ?_
  refine lv_iconst (v := 1) hx hb dL_law_1307 (by decide) ?_
  refine lv_iadd hx hb dL_law_1308 ?_
  refine lv_topi (fun z_4 ez_4 => ?_)
  have ez_4 : z_4 = 1 := ez_4.trans (by decide)
  subst ez_4
  refine va_sld (i := 1) hx hb hX hbl hbA hS (by subst hL7; exact vp_in_iff.mpr (by decide)) dL_law_1309 ?_
  refine W.eq (g2 := F0 m 1310 ls [.int (xs 1), .ref (ma 0), .int (-2)]) rfl ?_
  refine lv_aload_n hx hb dL_law_1310 rfl (lv_at hl 3 rfl) ?_
  refine lv_iload_n hx hb dL_law_1311 rfl (lv_at hl 0 rfl) ?_
  refine lv_iconst (v := 2) hx hb dL_law_1312 (by decide) ?_
  refine lv_iadd hx hb dL_law_1313 ?_
  refine lv_topi (fun z_5 ez_5 => ?_)
  have ez_5 : z_5 = 2 := ez_5.trans (by decide)
  subst ez_5
  refine va_sld (i := 2) hx hb hX hbl hbA hS (by subst hL7; exact vp_in_iff.mpr (by decide)) dL_law_1314 ?_
  refine W.eq (g2 := F0 m 1315 ls [.int (xs 2), .int (xs 1), .ref (ma 0), .int (-2)]) rfl ?_
  refine fw_call (wc := [((ma 0), .inr (10, [.int 0, .ref (ma 1), .ref (ma 2), .ref (ma 3), .ref (ma 4), .ref (ma 5), .int 0, .int 0, .int 0, .int 0, .int 0, .long 0, .int 0, .int 0, .int 0, .int (-1), .ref (ma 16), .ref (ma 17), .ref (ma 18), .ref (ma 19), .ref (ma 20), .ref (ma 21), .ref (ma 22), .ref (ma 23), .ref (ma 24), .ref (ma 25), .ref (ma 26), .ref (ma 27), .ref (ma 28), .ref (ma 29), .ref (ma 30), .ref (ma 31), .ref (ma 32), .ref (ma 33), .ref (ma 34), .ref (ma 35), .ref (ma 36), .ref (ma 37), .ref (ma 38), .ref (ma 39), .ref (ma 40), .ref (ma 41), .long 0])), ((ma 20), .inl (cy 1, 5, .inl (fun _ => 0))), ((ma 18), .inl (cy 1, 5, .inl (fun _ => 0))), ((ma 17), .inl (cy 1, 20, .inl (fun _ => 0)))]) (wr := [((xa 0), .inr (9, [.ref (xa 1), .ref (xa 2), .ref (xa 3), .ref (xa 4), .ref (xa 5), .ref (xa 6), .ref (xa 7), .ref (xa 8), .ref (xa 9), .int 0, .ref (xa 11), .null, .int 0, .int (-1)])), ((xa 1), .inl (cy 0, 1600, .inl (fun _ => 0))), ((xa 2), .inr (4, [.int 0, .int (-1), .ref (xa 30), .int 0, .int 0, .int 0, .int 0, .int 0, .ref (xa 31), .int 0, .int 0, .int 0])), ((xa 8), .inl (cy 4, 4, .inr (.inr (.inr (.inr (fun _ => none)))))), ((xa 9), .inl (cy 5, 3, .inr (.inr (.inr (.inr (fun _ => none)))))), ((xa 11), .inr (2, [.int 0, .int 0, .int 0, .int 0, .int 0, .int 0, .int 0, .int 0, .int 1, .int 10, .int 0, .int 0, .int 0, .int 0, .ref (xa 20), .ref (xa 21), .ref (xa 22), .ref (xa 23), .ref (xa 24), .ref (xa 25), .ref (xa 26)])), ((ma 1), .inl (cy 1, 4, .inl fw)), ((ma 2), .inl (cy 1, 4, .inl (fun _ => 0))), ((ma 3), .inl (cy 2, 240, .inr (.inl (fun _ => 0)))), ((ma 5), .inl (cy 0, 1600, .inl (fun _ => 0))), ((ma 16), .inl (cy 1, 5, .inl (fun _ => 0))), ((ma 19), .inl (cy 1, 45, .inl (fun _ => 0))), ((ma 21), .inl (cy 1, 150, .inl (fun _ => 0))), ((ma 22), .inl (cy 1, 5, .inl (fun _ => 0))), ((ma 23), .inl (cy 1, 120, .inl (fun _ => 0))), ((ma 24), .inl (cy 1, 30, .inl (fun _ => 0))), ((ma 25), .inl (cy 3, 15, .inl (fun _ => 0))), ((ma 26), .inl (cy 1, 5, .inl (fun _ => 0))), ((ma 27), .inl (cy 1, 30, .inl (fun _ => 0))), ((ma 28), .inl (cy 3, 3, .inl (fun _ => 0)))]) (runV (As := [.int (xs 1), .int (xs 2)]) (rest := [.int (-2)]) ⟨hx, hb, hml, hown, hts⟩ (g_X10_plane l D cy ma (xs 1) (xs 2)  H.size) sV_L_134 hK (va_recv hK.1 hP (ci := 10) (q0 := 6) rfl rfl) (PW.of hP hD [6, 15, 13, 12] (by decide) rfl rfl) ⟨Nat.le_of_ble_eq_true rfl, Nat.le_of_ble_eq_true rfl⟩ rfl hl.1 rfl (Nat.le_of_ble_eq_true rfl) dL_law_1315 ⟨Nat.le_of_ble_eq_true rfl, Nat.le_of_ble_eq_true rfl⟩) hP hD hS hA [6, 15, 13, 12] [0, 1, 2, 3, 4, 5, 7, 8, 9, 10, 11, 14, 16, 17, 18, 19, 20, 21, 22, 23] rfl rfl (by decide) (by decide) (fun v u_6 H locs hv hP hD hS => ?_)
  have hP : va_P D vwCl [((xa 0), .inr (9, [.ref (xa 1), .ref (xa 2), .ref (xa 3), .ref (xa 4), .ref (xa 5), .ref (xa 6), .ref (xa 7), .ref (xa 8), .ref (xa 9), .int 0, .ref (xa 11), .null, .int 0, .int (-1)])), ((xa 1), .inl (cy 0, 1600, .inl (fun _ => 0))), ((xa 2), .inr (4, [.int 0, .int (-1), .ref (xa 30), .int 0, .int 0, .int 0, .int 0, .int 0, .ref (xa 31), .int 0, .int 0, .int 0])), ((xa 8), .inl (cy 4, 4, .inr (.inr (.inr (.inr (fun _ => none)))))), ((xa 9), .inl (cy 5, 3, .inr (.inr (.inr (.inr (fun _ => none)))))), ((xa 11), .inr (2, [.int 0, .int 0, .int 0, .int 0, .int 0, .int 0, .int 0, .int 0, .int 1, .int 10, .int 0, .int 0, .int 0, .int 0, .ref (xa 20), .ref (xa 21), .ref (xa 22), .ref (xa 23), .ref (xa 24), .ref (xa 25), .ref (xa 26)])), ((ma 1), .inl (cy 1, 4, .inl fw)), ((ma 2), .inl (cy 1, 4, .inl (fun _ => 0))), ((ma 3), .inl (cy 2, 240, .inr (.inl (fun _ => 0)))), ((ma 5), .inl (cy 0, 1600, .inl (fun _ => 0))), ((ma 16), .inl (cy 1, 5, .inl (fun _ => 0))), ((ma 19), .inl (cy 1, 45, .inl (fun _ => 0))), ((ma 21), .inl (cy 1, 150, .inl (fun _ => 0))), ((ma 22), .inl (cy 1, 5, .inl (fun _ => 0))), ((ma 23), .inl (cy 1, 120, .inl (fun _ => 0))), ((ma 24), .inl (cy 1, 30, .inl (fun _ => 0))), ((ma 25), .inl (cy 3, 15, .inl (fun _ => 0))), ((ma 26), .inl (cy 1, 5, .inl (fun _ => 0))), ((ma 27), .inl (cy 1, 30, .inl (fun _ => 0))), ((ma 28), .inl (cy 3, 3, .inl (fun _ => 0)))] H := hP
  have hD : va_D A [((xa 0), .inr (9, [.ref (xa 1), .ref (xa 2), .ref (xa 3), .ref (xa 4), .ref (xa 5), .ref (xa 6), .ref (xa 7), .ref (xa 8), .ref (xa 9), .int 0, .ref (xa 11), .null, .int 0, .int (-1)])), ((xa 1), .inl (cy 0, 1600, .inl (fun _ => 0))), ((xa 2), .inr (4, [.int 0, .int (-1), .ref (xa 30), .int 0, .int 0, .int 0, .int 0, .int 0, .ref (xa 31), .int 0, .int 0, .int 0])), ((xa 8), .inl (cy 4, 4, .inr (.inr (.inr (.inr (fun _ => none)))))), ((xa 9), .inl (cy 5, 3, .inr (.inr (.inr (.inr (fun _ => none)))))), ((xa 11), .inr (2, [.int 0, .int 0, .int 0, .int 0, .int 0, .int 0, .int 0, .int 0, .int 1, .int 10, .int 0, .int 0, .int 0, .int 0, .ref (xa 20), .ref (xa 21), .ref (xa 22), .ref (xa 23), .ref (xa 24), .ref (xa 25), .ref (xa 26)])), ((ma 1), .inl (cy 1, 4, .inl fw)), ((ma 2), .inl (cy 1, 4, .inl (fun _ => 0))), ((ma 3), .inl (cy 2, 240, .inr (.inl (fun _ => 0)))), ((ma 5), .inl (cy 0, 1600, .inl (fun _ => 0))), ((ma 16), .inl (cy 1, 5, .inl (fun _ => 0))), ((ma 19), .inl (cy 1, 45, .inl (fun _ => 0))), ((ma 21), .inl (cy 1, 150, .inl (fun _ => 0))), ((ma 22), .inl (cy 1, 5, .inl (fun _ => 0))), ((ma 23), .inl (cy 1, 120, .inl (fun _ => 0))), ((ma 24), .inl (cy 1, 30, .inl (fun _ => 0))), ((ma 25), .inl (cy 3, 15, .inl (fun _ => 0))), ((ma 26), .inl (cy 1, 5, .inl (fun _ => 0))), ((ma 27), .inl (cy 1, 30, .inl (fun _ => 0))), ((ma 28), .inl (cy 3, 3, .inl (fun _ => 0)))] := hD
  obtain ⟨r_7, rfl, hr_7⟩ := hv
  have er_7 := hr_7
  subst er_7
  refine W.eq (g2 := F0 m 1318 ls [.int (-2), .int (-2)]) rfl ?_
  refine lv_icmp_eq (tgt := 2286) hx hb dL_law_1318 (by decide) (fun _ => ?_) (fun c_8 => absurd (by decide) c_8)
  exact law_end C0 hL7 hA2 hbA hS (lv_sub hl [0, 1, 2, 3] rfl) (Nat.le_of_ble_eq_true rfl) (Nat.le_of_ble_eq_true rfl)
set_option maxHeartbeats 4000000 in
set_option maxRecDepth 100000 in
theorem lc_28 {p : Program} {e : Env} {s : State} {m : MethodId} {below : List Frame} {meth : Method} {c : Code} {l : Launch} {b L : Nat} {xs : Nat → Int32} {A : Nat → Prop} (D : va_G) (cy : Nat → ClassId) (xa ma : Nat → Nat) (fw : Nat → Int32) (hw : ∀ k : Nat, k < 4 → fw k = -1) (hL7 : L = 7) (C0 : lw_At p s m meth c b L xs) (hK : KK D cy s) (hA : ∀ q : Nat, s.heap.size ≤ q → A q) (hA2 : ∀ q : Nat, A q → s.heap.size ≤ q) (hbA : ¬ A b) {H : Heap} {locs : List Loc} (hP : va_P D vwCl [((xa 0), .inr (9, [.ref (xa 1), .ref (xa 2), .ref (xa 3), .ref (xa 4), .ref (xa 5), .ref (xa 6), .ref (xa 7), .ref (xa 8), .ref (xa 9), .int 0, .ref (xa 11), .null, .int 0, .int (-1)])), ((xa 1), .inl (cy 0, 1600, .inl (fun _ => 0))), ((xa 2), .inr (4, [.int 0, .int (-1), .ref (xa 30), .int 0, .int 0, .int 0, .int 0, .int 0, .ref (xa 31), .int 0, .int 0, .int 0])), ((xa 8), .inl (cy 4, 4, .inr (.inr (.inr (.inr (fun _ => none)))))), ((xa 9), .inl (cy 5, 3, .inr (.inr (.inr (.inr (fun _ => none)))))), ((xa 11), .inr (2, [.int 0, .int 0, .int 0, .int 0, .int 0, .int 0, .int 0, .int 0, .int 1, .int 10, .int 0, .int 0, .int 0, .int 0, .ref (xa 20), .ref (xa 21), .ref (xa 22), .ref (xa 23), .ref (xa 24), .ref (xa 25), .ref (xa 26)])), ((ma 0), .inr (10, [.int 0, .ref (ma 1), .ref (ma 2), .ref (ma 3), .ref (ma 4), .ref (ma 5), .int 0, .int 0, .int 0, .int 0, .int 0, .long 0, .int 0, .int 0, .int 0, .int (-1), .ref (ma 16), .ref (ma 17), .ref (ma 18), .ref (ma 19), .ref (ma 20), .ref (ma 21), .ref (ma 22), .ref (ma 23), .ref (ma 24), .ref (ma 25), .ref (ma 26), .ref (ma 27), .ref (ma 28), .ref (ma 29), .ref (ma 30), .ref (ma 31), .ref (ma 32), .ref (ma 33), .ref (ma 34), .ref (ma 35), .ref (ma 36), .ref (ma 37), .ref (ma 38), .ref (ma 39), .ref (ma 40), .ref (ma 41), .long 0])), ((ma 1), .inl (cy 1, 4, .inl fw)), ((ma 2), .inl (cy 1, 4, .inl (fun _ => 0))), ((ma 3), .inl (cy 2, 240, .inr (.inl (fun _ => 0)))), ((ma 5), .inl (cy 0, 1600, .inl (fun _ => 0))), ((ma 16), .inl (cy 1, 5, .inl (fun _ => 0))), ((ma 17), .inl (cy 1, 20, .inl (fun _ => 0))), ((ma 18), .inl (cy 1, 5, .inl (fun _ => 0))), ((ma 19), .inl (cy 1, 45, .inl (fun _ => 0))), ((ma 20), .inl (cy 1, 5, .inl (fun _ => 0))), ((ma 21), .inl (cy 1, 150, .inl (fun _ => 0))), ((ma 22), .inl (cy 1, 5, .inl (fun _ => 0))), ((ma 23), .inl (cy 1, 120, .inl (fun _ => 0))), ((ma 24), .inl (cy 1, 30, .inl (fun _ => 0))), ((ma 25), .inl (cy 3, 15, .inl (fun _ => 0))), ((ma 26), .inl (cy 1, 5, .inl (fun _ => 0))), ((ma 27), .inl (cy 1, 30, .inl (fun _ => 0))), ((ma 28), .inl (cy 3, 3, .inl (fun _ => 0)))] H) (hD : va_D A [((xa 0), .inr (9, [.ref (xa 1), .ref (xa 2), .ref (xa 3), .ref (xa 4), .ref (xa 5), .ref (xa 6), .ref (xa 7), .ref (xa 8), .ref (xa 9), .int 0, .ref (xa 11), .null, .int 0, .int (-1)])), ((xa 1), .inl (cy 0, 1600, .inl (fun _ => 0))), ((xa 2), .inr (4, [.int 0, .int (-1), .ref (xa 30), .int 0, .int 0, .int 0, .int 0, .int 0, .ref (xa 31), .int 0, .int 0, .int 0])), ((xa 8), .inl (cy 4, 4, .inr (.inr (.inr (.inr (fun _ => none)))))), ((xa 9), .inl (cy 5, 3, .inr (.inr (.inr (.inr (fun _ => none)))))), ((xa 11), .inr (2, [.int 0, .int 0, .int 0, .int 0, .int 0, .int 0, .int 0, .int 0, .int 1, .int 10, .int 0, .int 0, .int 0, .int 0, .ref (xa 20), .ref (xa 21), .ref (xa 22), .ref (xa 23), .ref (xa 24), .ref (xa 25), .ref (xa 26)])), ((ma 0), .inr (10, [.int 0, .ref (ma 1), .ref (ma 2), .ref (ma 3), .ref (ma 4), .ref (ma 5), .int 0, .int 0, .int 0, .int 0, .int 0, .long 0, .int 0, .int 0, .int 0, .int (-1), .ref (ma 16), .ref (ma 17), .ref (ma 18), .ref (ma 19), .ref (ma 20), .ref (ma 21), .ref (ma 22), .ref (ma 23), .ref (ma 24), .ref (ma 25), .ref (ma 26), .ref (ma 27), .ref (ma 28), .ref (ma 29), .ref (ma 30), .ref (ma 31), .ref (ma 32), .ref (ma 33), .ref (ma 34), .ref (ma 35), .ref (ma 36), .ref (ma 37), .ref (ma 38), .ref (ma 39), .ref (ma 40), .ref (ma 41), .long 0])), ((ma 1), .inl (cy 1, 4, .inl fw)), ((ma 2), .inl (cy 1, 4, .inl (fun _ => 0))), ((ma 3), .inl (cy 2, 240, .inr (.inl (fun _ => 0)))), ((ma 5), .inl (cy 0, 1600, .inl (fun _ => 0))), ((ma 16), .inl (cy 1, 5, .inl (fun _ => 0))), ((ma 17), .inl (cy 1, 20, .inl (fun _ => 0))), ((ma 18), .inl (cy 1, 5, .inl (fun _ => 0))), ((ma 19), .inl (cy 1, 45, .inl (fun _ => 0))), ((ma 20), .inl (cy 1, 5, .inl (fun _ => 0))), ((ma 21), .inl (cy 1, 150, .inl (fun _ => 0))), ((ma 22), .inl (cy 1, 5, .inl (fun _ => 0))), ((ma 23), .inl (cy 1, 120, .inl (fun _ => 0))), ((ma 24), .inl (cy 1, 30, .inl (fun _ => 0))), ((ma 25), .inl (cy 3, 15, .inl (fun _ => 0))), ((ma 26), .inl (cy 1, 5, .inl (fun _ => 0))), ((ma 27), .inl (cy 1, 30, .inl (fun _ => 0))), ((ma 28), .inl (cy 3, 3, .inl (fun _ => 0)))]) (hS : va_S A s.heap H locs) {ls : Array Slot} (hl : lv_has ls 4 [(3, .int 0), (2, .ref (ma 0)), (1, .ref (xa 0)), (0, .ref b)]) : W p l e room_1 s m #[Value.ref b] below meth c H locs 82 108979 (lw_Z below #[Value.ref b] s) (F0 m 1323 ls []) := by
  obtain ⟨hx, hb, hr, hml, hown, hts, hX, hbl, hlocks, hgv⟩ := id C0
  have hown : s.vm.findClass RL = some m.cls := hown
  have hb : c.code = cL_law := hb
  have hts : ∀ w ∈ GW, w.before #[Value.ref b] s = true := fun w h => hts w (gw_tbl w h)
  refine lv_aload_n hx hb dL_law_1323 rfl (lv_at hl 2 rfl) ?_
  refine lv_aload_n hx hb dL_law_1324 rfl (lv_at hl 3 rfl) ?_
  refine lv_iload_n hx hb dL_law_1325 rfl (lv_at hl 0 rfl) ?_
  refine lv_iconst (v := 1) hx hb dL_law_1326 (by decide) ?_
  refine lv_iadd hx hb dL_law_1327 ?_
  refine lv_topi (fun z_1 ez_1 => ?_)
  have ez_1 : z_1 = 1 := ez_1.trans (by decide)
  subst ez_1
  refine va_sld (i := 1) hx hb hX hbl hbA hS (by subst hL7; exact vp_in_iff.mpr (by decide)) dL_law_1328 ?_
  refine W.eq (g2 := F0 m 1329 ls [.int (xs 1), .ref (xa 0)]) rfl ?_
  refine pu_calli (runV (As := [.int (xs 1)]) (rest := []) ⟨hx, hb, hml, hown, hts⟩ (f_X9_edge l D cy xa (xs 1) ) sV_L_135 hK (va_recv hK.1 hP (ci := 9) (q0 := 0) rfl rfl) (hP.sub (ws' := [((xa 0), .inr (9, [.ref (xa 1), .ref (xa 2), .ref (xa 3), .ref (xa 4), .ref (xa 5), .ref (xa 6), .ref (xa 7), .ref (xa 8), .ref (xa 9), .int 0, .ref (xa 11), .null, .int 0, .int (-1)])), ((xa 11), .inr (2, [.int 0, .int 0, .int 0, .int 0, .int 0, .int 0, .int 0, .int 0, .int 1, .int 10, .int 0, .int 0, .int 0, .int 0, .ref (xa 20), .ref (xa 21), .ref (xa 22), .ref (xa 23), .ref (xa 24), .ref (xa 25), .ref (xa 26)]))]) [0, 5] rfl) ⟨Nat.le_of_ble_eq_true rfl, Nat.le_of_ble_eq_true rfl⟩ rfl hl.1 rfl (Nat.le_of_ble_eq_true rfl) dL_law_1329 ⟨Nat.le_of_ble_eq_true rfl, Nat.le_of_ble_eq_true rfl⟩) (fun r_2 hr_2 => ?_)
  have er_2 := hr_2
  subst er_2
  refine W.eq (g2 := F0 m 1332 ls [.int (-2)]) rfl ?_
  refine lv_aload_n hx hb dL_law_1332 rfl (lv_at hl 1 rfl) ?_
  refine lv_aload_n hx hb dL_law_1333 rfl (lv_at hl 3 rfl) ?_
  refine lv_iload_n hx hb dL_law_1334 rfl (lv_at hl 0 rfl) ?_
  refine lv_iconst (v := 1) hx hb dL_law_1335 (by decide) ?_
  refine lv_iadd hx hb dL_law_1336 ?_
  refine lv_topi (fun z_3 ez_3 => ?_)
  have ez_3 : z_3 = 1 := ez_3.trans (by decide)
  subst ez_3
  refine va_sld (i := 1) hx hb hX hbl hbA hS (by subst hL7; exact vp_in_iff.mpr (by decide)) dL_law_1337 ?_
  refine W.eq (g2 := F0 m 1338 ls [.int (xs 1), .ref (ma 0), .int (-2)]) rfl ?_
  refine fw_call (wc := [((ma 0), .inr (10, [.int 0, .ref (ma 1), .ref (ma 2), .ref (ma 3), .ref (ma 4), .ref (ma 5), .int 0, .int 0, .int 0, .int 0, .int 0, .long 0, .int 0, .int 0, .int 0, .int (-1), .ref (ma 16), .ref (ma 17), .ref (ma 18), .ref (ma 19), .ref (ma 20), .ref (ma 21), .ref (ma 22), .ref (ma 23), .ref (ma 24), .ref (ma 25), .ref (ma 26), .ref (ma 27), .ref (ma 28), .ref (ma 29), .ref (ma 30), .ref (ma 31), .ref (ma 32), .ref (ma 33), .ref (ma 34), .ref (ma 35), .ref (ma 36), .ref (ma 37), .ref (ma 38), .ref (ma 39), .ref (ma 40), .ref (ma 41), .long 0])), ((ma 20), .inl (cy 1, 5, .inl (fun _ => 0))), ((ma 18), .inl (cy 1, 5, .inl (fun _ => 0))), ((ma 17), .inl (cy 1, 20, .inl (fun _ => 0)))]) (wr := [((xa 0), .inr (9, [.ref (xa 1), .ref (xa 2), .ref (xa 3), .ref (xa 4), .ref (xa 5), .ref (xa 6), .ref (xa 7), .ref (xa 8), .ref (xa 9), .int 0, .ref (xa 11), .null, .int 0, .int (-1)])), ((xa 1), .inl (cy 0, 1600, .inl (fun _ => 0))), ((xa 2), .inr (4, [.int 0, .int (-1), .ref (xa 30), .int 0, .int 0, .int 0, .int 0, .int 0, .ref (xa 31), .int 0, .int 0, .int 0])), ((xa 8), .inl (cy 4, 4, .inr (.inr (.inr (.inr (fun _ => none)))))), ((xa 9), .inl (cy 5, 3, .inr (.inr (.inr (.inr (fun _ => none)))))), ((xa 11), .inr (2, [.int 0, .int 0, .int 0, .int 0, .int 0, .int 0, .int 0, .int 0, .int 1, .int 10, .int 0, .int 0, .int 0, .int 0, .ref (xa 20), .ref (xa 21), .ref (xa 22), .ref (xa 23), .ref (xa 24), .ref (xa 25), .ref (xa 26)])), ((ma 1), .inl (cy 1, 4, .inl fw)), ((ma 2), .inl (cy 1, 4, .inl (fun _ => 0))), ((ma 3), .inl (cy 2, 240, .inr (.inl (fun _ => 0)))), ((ma 5), .inl (cy 0, 1600, .inl (fun _ => 0))), ((ma 16), .inl (cy 1, 5, .inl (fun _ => 0))), ((ma 19), .inl (cy 1, 45, .inl (fun _ => 0))), ((ma 21), .inl (cy 1, 150, .inl (fun _ => 0))), ((ma 22), .inl (cy 1, 5, .inl (fun _ => 0))), ((ma 23), .inl (cy 1, 120, .inl (fun _ => 0))), ((ma 24), .inl (cy 1, 30, .inl (fun _ => 0))), ((ma 25), .inl (cy 3, 15, .inl (fun _ => 0))), ((ma 26), .inl (cy 1, 5, .inl (fun _ => 0))), ((ma 27), .inl (cy 1, 30, .inl (fun _ => 0))), ((ma 28), .inl (cy 3, 3, .inl (fun _ => 0)))]) (runV (As := [.int (xs 1)]) (rest := [.int (-2)]) ⟨hx, hb, hml, hown, hts⟩ (g_X10_edge l D cy ma (xs 1)  H.size) sV_L_138 hK (va_recv hK.1 hP (ci := 10) (q0 := 6) rfl rfl) (PW.of hP hD [6, 15, 13, 12] (by decide) rfl rfl) ⟨Nat.le_of_ble_eq_true rfl, Nat.le_of_ble_eq_true rfl⟩ rfl hl.1 rfl (Nat.le_of_ble_eq_true rfl) dL_law_1338 ⟨Nat.le_of_ble_eq_true rfl, Nat.le_of_ble_eq_true rfl⟩) hP hD hS hA [6, 15, 13, 12] [0, 1, 2, 3, 4, 5, 7, 8, 9, 10, 11, 14, 16, 17, 18, 19, 20, 21, 22, 23] rfl rfl (by decide) (by decide) (fun v u_4 H locs hv hP hD hS => ?_)
  have hP : va_P D vwCl [((xa 0), .inr (9, [.ref (xa 1), .ref (xa 2), .ref (xa 3), .ref (xa 4), .ref (xa 5), .ref (xa 6), .ref (xa 7), .ref (xa 8), .ref (xa 9), .int 0, .ref (xa 11), .null, .int 0, .int (-1)])), ((xa 1), .inl (cy 0, 1600, .inl (fun _ => 0))), ((xa 2), .inr (4, [.int 0, .int (-1), .ref (xa 30), .int 0, .int 0, .int 0, .int 0, .int 0, .ref (xa 31), .int 0, .int 0, .int 0])), ((xa 8), .inl (cy 4, 4, .inr (.inr (.inr (.inr (fun _ => none)))))), ((xa 9), .inl (cy 5, 3, .inr (.inr (.inr (.inr (fun _ => none)))))), ((xa 11), .inr (2, [.int 0, .int 0, .int 0, .int 0, .int 0, .int 0, .int 0, .int 0, .int 1, .int 10, .int 0, .int 0, .int 0, .int 0, .ref (xa 20), .ref (xa 21), .ref (xa 22), .ref (xa 23), .ref (xa 24), .ref (xa 25), .ref (xa 26)])), ((ma 1), .inl (cy 1, 4, .inl fw)), ((ma 2), .inl (cy 1, 4, .inl (fun _ => 0))), ((ma 3), .inl (cy 2, 240, .inr (.inl (fun _ => 0)))), ((ma 5), .inl (cy 0, 1600, .inl (fun _ => 0))), ((ma 16), .inl (cy 1, 5, .inl (fun _ => 0))), ((ma 19), .inl (cy 1, 45, .inl (fun _ => 0))), ((ma 21), .inl (cy 1, 150, .inl (fun _ => 0))), ((ma 22), .inl (cy 1, 5, .inl (fun _ => 0))), ((ma 23), .inl (cy 1, 120, .inl (fun _ => 0))), ((ma 24), .inl (cy 1, 30, .inl (fun _ => 0))), ((ma 25), .inl (cy 3, 15, .inl (fun _ => 0))), ((ma 26), .inl (cy 1, 5, .inl (fun _ => 0))), ((ma 27), .inl (cy 1, 30, .inl (fun _ => 0))), ((ma 28), .inl (cy 3, 3, .inl (fun _ => 0)))] H := hP
  have hD : va_D A [((xa 0), .inr (9, [.ref (xa 1), .ref (xa 2), .ref (xa 3), .ref (xa 4), .ref (xa 5), .ref (xa 6), .ref (xa 7), .ref (xa 8), .ref (xa 9), .int 0, .ref (xa 11), .null, .int 0, .int (-1)])), ((xa 1), .inl (cy 0, 1600, .inl (fun _ => 0))), ((xa 2), .inr (4, [.int 0, .int (-1), .ref (xa 30), .int 0, .int 0, .int 0, .int 0, .int 0, .ref (xa 31), .int 0, .int 0, .int 0])), ((xa 8), .inl (cy 4, 4, .inr (.inr (.inr (.inr (fun _ => none)))))), ((xa 9), .inl (cy 5, 3, .inr (.inr (.inr (.inr (fun _ => none)))))), ((xa 11), .inr (2, [.int 0, .int 0, .int 0, .int 0, .int 0, .int 0, .int 0, .int 0, .int 1, .int 10, .int 0, .int 0, .int 0, .int 0, .ref (xa 20), .ref (xa 21), .ref (xa 22), .ref (xa 23), .ref (xa 24), .ref (xa 25), .ref (xa 26)])), ((ma 1), .inl (cy 1, 4, .inl fw)), ((ma 2), .inl (cy 1, 4, .inl (fun _ => 0))), ((ma 3), .inl (cy 2, 240, .inr (.inl (fun _ => 0)))), ((ma 5), .inl (cy 0, 1600, .inl (fun _ => 0))), ((ma 16), .inl (cy 1, 5, .inl (fun _ => 0))), ((ma 19), .inl (cy 1, 45, .inl (fun _ => 0))), ((ma 21), .inl (cy 1, 150, .inl (fun _ => 0))), ((ma 22), .inl (cy 1, 5, .inl (fun _ => 0))), ((ma 23), .inl (cy 1, 120, .inl (fun _ => 0))), ((ma 24), .inl (cy 1, 30, .inl (fun _ => 0))), ((ma 25), .inl (cy 3, 15, .inl (fun _ => 0))), ((ma 26), .inl (cy 1, 5, .inl (fun _ => 0))), ((ma 27), .inl (cy 1, 30, .inl (fun _ => 0))), ((ma 28), .inl (cy 3, 3, .inl (fun _ => 0)))] := hD
  obtain ⟨r_5, rfl, hr_5⟩ := hv
  have er_5 := hr_5
  subst er_5
  refine W.eq (g2 := F0 m 1341 ls [.int (-2), .int (-2)]) rfl ?_
  refine lv_icmp_eq (tgt := 2286) hx hb dL_law_1341 (by decide) (fun _ => ?_) (fun c_6 => absurd (by decide) c_6)
  exact law_end C0 hL7 hA2 hbA hS (lv_sub hl [0, 1, 2, 3] rfl) (Nat.le_of_ble_eq_true rfl) (Nat.le_of_ble_eq_true rfl)
set_option maxHeartbeats 4000000 in
set_option maxRecDepth 100000 in
theorem lc_29 {p : Program} {e : Env} {s : State} {m : MethodId} {below : List Frame} {meth : Method} {c : Code} {l : Launch} {b L : Nat} {xs : Nat → Int32} {A : Nat → Prop} (D : va_G) (cy : Nat → ClassId) (xa ma : Nat → Nat) (fw : Nat → Int32) (hw : ∀ k : Nat, k < 4 → fw k = -1) (hL7 : L = 7) (C0 : lw_At p s m meth c b L xs) (hK : KK D cy s) (hA : ∀ q : Nat, s.heap.size ≤ q → A q) (hA2 : ∀ q : Nat, A q → s.heap.size ≤ q) (hbA : ¬ A b) {H : Heap} {locs : List Loc} (hP : va_P D vwCl [((xa 0), .inr (9, [.ref (xa 1), .ref (xa 2), .ref (xa 3), .ref (xa 4), .ref (xa 5), .ref (xa 6), .ref (xa 7), .ref (xa 8), .ref (xa 9), .int 0, .ref (xa 11), .null, .int 0, .int (-1)])), ((xa 1), .inl (cy 0, 1600, .inl (fun _ => 0))), ((xa 2), .inr (4, [.int 0, .int (-1), .ref (xa 30), .int 0, .int 0, .int 0, .int 0, .int 0, .ref (xa 31), .int 0, .int 0, .int 0])), ((xa 8), .inl (cy 4, 4, .inr (.inr (.inr (.inr (fun _ => none)))))), ((xa 9), .inl (cy 5, 3, .inr (.inr (.inr (.inr (fun _ => none)))))), ((xa 11), .inr (2, [.int 0, .int 0, .int 0, .int 0, .int 0, .int 0, .int 0, .int 0, .int 1, .int 10, .int 0, .int 0, .int 0, .int 0, .ref (xa 20), .ref (xa 21), .ref (xa 22), .ref (xa 23), .ref (xa 24), .ref (xa 25), .ref (xa 26)])), ((ma 0), .inr (10, [.int 0, .ref (ma 1), .ref (ma 2), .ref (ma 3), .ref (ma 4), .ref (ma 5), .int 0, .int 0, .int 0, .int 0, .int 0, .long 0, .int 0, .int 0, .int 0, .int (-1), .ref (ma 16), .ref (ma 17), .ref (ma 18), .ref (ma 19), .ref (ma 20), .ref (ma 21), .ref (ma 22), .ref (ma 23), .ref (ma 24), .ref (ma 25), .ref (ma 26), .ref (ma 27), .ref (ma 28), .ref (ma 29), .ref (ma 30), .ref (ma 31), .ref (ma 32), .ref (ma 33), .ref (ma 34), .ref (ma 35), .ref (ma 36), .ref (ma 37), .ref (ma 38), .ref (ma 39), .ref (ma 40), .ref (ma 41), .long 0])), ((ma 1), .inl (cy 1, 4, .inl fw)), ((ma 2), .inl (cy 1, 4, .inl (fun _ => 0))), ((ma 3), .inl (cy 2, 240, .inr (.inl (fun _ => 0)))), ((ma 5), .inl (cy 0, 1600, .inl (fun _ => 0))), ((ma 16), .inl (cy 1, 5, .inl (fun _ => 0))), ((ma 17), .inl (cy 1, 20, .inl (fun _ => 0))), ((ma 18), .inl (cy 1, 5, .inl (fun _ => 0))), ((ma 19), .inl (cy 1, 45, .inl (fun _ => 0))), ((ma 20), .inl (cy 1, 5, .inl (fun _ => 0))), ((ma 21), .inl (cy 1, 150, .inl (fun _ => 0))), ((ma 22), .inl (cy 1, 5, .inl (fun _ => 0))), ((ma 23), .inl (cy 1, 120, .inl (fun _ => 0))), ((ma 24), .inl (cy 1, 30, .inl (fun _ => 0))), ((ma 25), .inl (cy 3, 15, .inl (fun _ => 0))), ((ma 26), .inl (cy 1, 5, .inl (fun _ => 0))), ((ma 27), .inl (cy 1, 30, .inl (fun _ => 0))), ((ma 28), .inl (cy 3, 3, .inl (fun _ => 0)))] H) (hD : va_D A [((xa 0), .inr (9, [.ref (xa 1), .ref (xa 2), .ref (xa 3), .ref (xa 4), .ref (xa 5), .ref (xa 6), .ref (xa 7), .ref (xa 8), .ref (xa 9), .int 0, .ref (xa 11), .null, .int 0, .int (-1)])), ((xa 1), .inl (cy 0, 1600, .inl (fun _ => 0))), ((xa 2), .inr (4, [.int 0, .int (-1), .ref (xa 30), .int 0, .int 0, .int 0, .int 0, .int 0, .ref (xa 31), .int 0, .int 0, .int 0])), ((xa 8), .inl (cy 4, 4, .inr (.inr (.inr (.inr (fun _ => none)))))), ((xa 9), .inl (cy 5, 3, .inr (.inr (.inr (.inr (fun _ => none)))))), ((xa 11), .inr (2, [.int 0, .int 0, .int 0, .int 0, .int 0, .int 0, .int 0, .int 0, .int 1, .int 10, .int 0, .int 0, .int 0, .int 0, .ref (xa 20), .ref (xa 21), .ref (xa 22), .ref (xa 23), .ref (xa 24), .ref (xa 25), .ref (xa 26)])), ((ma 0), .inr (10, [.int 0, .ref (ma 1), .ref (ma 2), .ref (ma 3), .ref (ma 4), .ref (ma 5), .int 0, .int 0, .int 0, .int 0, .int 0, .long 0, .int 0, .int 0, .int 0, .int (-1), .ref (ma 16), .ref (ma 17), .ref (ma 18), .ref (ma 19), .ref (ma 20), .ref (ma 21), .ref (ma 22), .ref (ma 23), .ref (ma 24), .ref (ma 25), .ref (ma 26), .ref (ma 27), .ref (ma 28), .ref (ma 29), .ref (ma 30), .ref (ma 31), .ref (ma 32), .ref (ma 33), .ref (ma 34), .ref (ma 35), .ref (ma 36), .ref (ma 37), .ref (ma 38), .ref (ma 39), .ref (ma 40), .ref (ma 41), .long 0])), ((ma 1), .inl (cy 1, 4, .inl fw)), ((ma 2), .inl (cy 1, 4, .inl (fun _ => 0))), ((ma 3), .inl (cy 2, 240, .inr (.inl (fun _ => 0)))), ((ma 5), .inl (cy 0, 1600, .inl (fun _ => 0))), ((ma 16), .inl (cy 1, 5, .inl (fun _ => 0))), ((ma 17), .inl (cy 1, 20, .inl (fun _ => 0))), ((ma 18), .inl (cy 1, 5, .inl (fun _ => 0))), ((ma 19), .inl (cy 1, 45, .inl (fun _ => 0))), ((ma 20), .inl (cy 1, 5, .inl (fun _ => 0))), ((ma 21), .inl (cy 1, 150, .inl (fun _ => 0))), ((ma 22), .inl (cy 1, 5, .inl (fun _ => 0))), ((ma 23), .inl (cy 1, 120, .inl (fun _ => 0))), ((ma 24), .inl (cy 1, 30, .inl (fun _ => 0))), ((ma 25), .inl (cy 3, 15, .inl (fun _ => 0))), ((ma 26), .inl (cy 1, 5, .inl (fun _ => 0))), ((ma 27), .inl (cy 1, 30, .inl (fun _ => 0))), ((ma 28), .inl (cy 3, 3, .inl (fun _ => 0)))]) (hS : va_S A s.heap H locs) {ls : Array Slot} (hl : lv_has ls 4 [(3, .int 0), (2, .ref (ma 0)), (1, .ref (xa 0)), (0, .ref b)]) : W p l e room_1 s m #[Value.ref b] below meth c H locs 82 108979 (lw_Z below #[Value.ref b] s) (F0 m 1346 ls []) := by
  obtain ⟨hx, hb, hr, hml, hown, hts, hX, hbl, hlocks, hgv⟩ := id C0
  have hown : s.vm.findClass RL = some m.cls := hown
  have hb : c.code = cL_law := hb
  have hts : ∀ w ∈ GW, w.before #[Value.ref b] s = true := fun w h => hts w (gw_tbl w h)
  refine lv_aload_n hx hb dL_law_1346 rfl (lv_at hl 2 rfl) ?_
  refine lv_aload_n hx hb dL_law_1347 rfl (lv_at hl 3 rfl) ?_
  refine lv_iload_n hx hb dL_law_1348 rfl (lv_at hl 0 rfl) ?_
  refine lv_iconst (v := 1) hx hb dL_law_1349 (by decide) ?_
  refine lv_iadd hx hb dL_law_1350 ?_
  refine lv_topi (fun z_1 ez_1 => ?_)
  have ez_1 : z_1 = 1 := ez_1.trans (by decide)
  subst ez_1
  refine va_sld (i := 1) hx hb hX hbl hbA hS (by subst hL7; exact vp_in_iff.mpr (by decide)) dL_law_1351 ?_
  refine W.eq (g2 := F0 m 1352 ls [.int (xs 1), .ref (xa 0)]) rfl ?_
  refine lv_aload_n hx hb dL_law_1352 rfl (lv_at hl 3 rfl) ?_
  refine lv_iload_n hx hb dL_law_1353 rfl (lv_at hl 0 rfl) ?_
  refine lv_iconst (v := 2) hx hb dL_law_1354 (by decide) ?_
  refine lv_iadd hx hb dL_law_1355 ?_
  refine lv_topi (fun z_2 ez_2 => ?_)
  have ez_2 : z_2 = 2 := ez_2.trans (by decide)
  subst ez_2
  refine va_sld (i := 2) hx hb hX hbl hbA hS (by subst hL7; exact vp_in_iff.mpr (by decide)) dL_law_1356 ?_
  refine W.eq (g2 := F0 m 1357 ls [.int (xs 2), .int (xs 1), .ref (xa 0)]) rfl ?_
  refine lv_aload_n hx hb dL_law_1357 rfl (lv_at hl 3 rfl) ?_
  refine lv_iload_n hx hb dL_law_1358 rfl (lv_at hl 0 rfl) ?_
  refine lv_iconst (v := 3) hx hb dL_law_1359 (by decide) ?_
  refine lv_iadd hx hb dL_law_1360 ?_
  refine lv_topi (fun z_3 ez_3 => ?_)
  have ez_3 : z_3 = 3 := ez_3.trans (by decide)
  subst ez_3
  refine va_sld (i := 3) hx hb hX hbl hbA hS (by subst hL7; exact vp_in_iff.mpr (by decide)) dL_law_1361 ?_
  refine W.eq (g2 := F0 m 1362 ls [.int (xs 3), .int (xs 2), .int (xs 1), .ref (xa 0)]) rfl ?_
  refine lv_aload_n hx hb dL_law_1362 rfl (lv_at hl 3 rfl) ?_
  refine lv_iload_n hx hb dL_law_1363 rfl (lv_at hl 0 rfl) ?_
  refine lv_iconst (v := 4) hx hb dL_law_1364 (by decide) ?_
  refine lv_iadd hx hb dL_law_1365 ?_
  refine lv_topi (fun z_4 ez_4 => ?_)
  have ez_4 : z_4 = 4 := ez_4.trans (by decide)
  subst ez_4
  refine va_sld (i := 4) hx hb hX hbl hbA hS (by subst hL7; exact vp_in_iff.mpr (by decide)) dL_law_1366 ?_
  refine W.eq (g2 := F0 m 1367 ls [.int (xs 4), .int (xs 3), .int (xs 2), .int (xs 1), .ref (xa 0)]) rfl ?_
  refine pu_calll (runV (As := [.int (xs 1), .int (xs 2), .int (xs 3), .int (xs 4)]) (rest := []) ⟨hx, hb, hml, hown, hts⟩ (f_X9_path l D cy xa (xs 1) (xs 2) (xs 3) (xs 4) ) sV_L_139 hK (va_recv hK.1 hP (ci := 9) (q0 := 0) rfl rfl) (hP.sub (ws' := [((xa 0), .inr (9, [.ref (xa 1), .ref (xa 2), .ref (xa 3), .ref (xa 4), .ref (xa 5), .ref (xa 6), .ref (xa 7), .ref (xa 8), .ref (xa 9), .int 0, .ref (xa 11), .null, .int 0, .int (-1)])), ((xa 11), .inr (2, [.int 0, .int 0, .int 0, .int 0, .int 0, .int 0, .int 0, .int 0, .int 1, .int 10, .int 0, .int 0, .int 0, .int 0, .ref (xa 20), .ref (xa 21), .ref (xa 22), .ref (xa 23), .ref (xa 24), .ref (xa 25), .ref (xa 26)]))]) [0, 5] rfl) ⟨Nat.le_of_ble_eq_true rfl, Nat.le_of_ble_eq_true rfl⟩ rfl hl.1 rfl (Nat.le_of_ble_eq_true rfl) dL_law_1367 ⟨Nat.le_of_ble_eq_true rfl, Nat.le_of_ble_eq_true rfl⟩) (fun r_5 hr_5 => ?_)
  have er_5 := hr_5
  subst er_5
  refine W.eq (g2 := F0 m 1370 ls [.long (-2)]) rfl ?_
  refine lv_aload_n hx hb dL_law_1370 rfl (lv_at hl 1 rfl) ?_
  refine lv_aload_n hx hb dL_law_1371 rfl (lv_at hl 3 rfl) ?_
  refine lv_iload_n hx hb dL_law_1372 rfl (lv_at hl 0 rfl) ?_
  refine lv_iconst (v := 1) hx hb dL_law_1373 (by decide) ?_
  refine lv_iadd hx hb dL_law_1374 ?_
  refine lv_topi (fun z_6 ez_6 => ?_)
  have ez_6 : z_6 = 1 := ez_6.trans (by decide)
  subst ez_6
  refine va_sld (i := 1) hx hb hX hbl hbA hS (by subst hL7; exact vp_in_iff.mpr (by decide)) dL_law_1375 ?_
  refine W.eq (g2 := F0 m 1376 ls [.int (xs 1), .ref (ma 0), .long (-2)]) rfl ?_
  refine lv_aload_n hx hb dL_law_1376 rfl (lv_at hl 3 rfl) ?_
  refine lv_iload_n hx hb dL_law_1377 rfl (lv_at hl 0 rfl) ?_
  refine lv_iconst (v := 2) hx hb dL_law_1378 (by decide) ?_
  refine lv_iadd hx hb dL_law_1379 ?_
  refine lv_topi (fun z_7 ez_7 => ?_)
  have ez_7 : z_7 = 2 := ez_7.trans (by decide)
  subst ez_7
  refine va_sld (i := 2) hx hb hX hbl hbA hS (by subst hL7; exact vp_in_iff.mpr (by decide)) dL_law_1380 ?_
  refine W.eq (g2 := F0 m 1381 ls [.int (xs 2), .int (xs 1), .ref (ma 0), .long (-2)]) rfl ?_
  refine lv_aload_n hx hb dL_law_1381 rfl (lv_at hl 3 rfl) ?_
  refine lv_iload_n hx hb dL_law_1382 rfl (lv_at hl 0 rfl) ?_
  refine lv_iconst (v := 3) hx hb dL_law_1383 (by decide) ?_
  refine lv_iadd hx hb dL_law_1384 ?_
  refine lv_topi (fun z_8 ez_8 => ?_)
  have ez_8 : z_8 = 3 := ez_8.trans (by decide)
  subst ez_8
  refine va_sld (i := 3) hx hb hX hbl hbA hS (by subst hL7; exact vp_in_iff.mpr (by decide)) dL_law_1385 ?_
  refine W.eq (g2 := F0 m 1386 ls [.int (xs 3), .int (xs 2), .int (xs 1), .ref (ma 0), .long (-2)]) rfl ?_
  refine lv_aload_n hx hb dL_law_1386 rfl (lv_at hl 3 rfl) ?_
  refine lv_iload_n hx hb dL_law_1387 rfl (lv_at hl 0 rfl) ?_
  refine lv_iconst (v := 4) hx hb dL_law_1388 (by decide) ?_
  refine lv_iadd hx hb dL_law_1389 ?_
  refine lv_topi (fun z_9 ez_9 => ?_)
  have ez_9 : z_9 = 4 := ez_9.trans (by decide)
  subst ez_9
  refine va_sld (i := 4) hx hb hX hbl hbA hS (by subst hL7; exact vp_in_iff.mpr (by decide)) dL_law_1390 ?_
  refine W.eq (g2 := F0 m 1391 ls [.int (xs 4), .int (xs 3), .int (xs 2), .int (xs 1), .ref (ma 0), .long (-2)]) rfl ?_
  refine fw_call (wc := [((ma 0), .inr (10, [.int 0, .ref (ma 1), .ref (ma 2), .ref (ma 3), .ref (ma 4), .ref (ma 5), .int 0, .int 0, .int 0, .int 0, .int 0, .long 0, .int 0, .int 0, .int 0, .int (-1), .ref (ma 16), .ref (ma 17), .ref (ma 18), .ref (ma 19), .ref (ma 20), .ref (ma 21), .ref (ma 22), .ref (ma 23), .ref (ma 24), .ref (ma 25), .ref (ma 26), .ref (ma 27), .ref (ma 28), .ref (ma 29), .ref (ma 30), .ref (ma 31), .ref (ma 32), .ref (ma 33), .ref (ma 34), .ref (ma 35), .ref (ma 36), .ref (ma 37), .ref (ma 38), .ref (ma 39), .ref (ma 40), .ref (ma 41), .long 0])), ((ma 20), .inl (cy 1, 5, .inl (fun _ => 0))), ((ma 18), .inl (cy 1, 5, .inl (fun _ => 0))), ((ma 17), .inl (cy 1, 20, .inl (fun _ => 0)))]) (wr := [((xa 0), .inr (9, [.ref (xa 1), .ref (xa 2), .ref (xa 3), .ref (xa 4), .ref (xa 5), .ref (xa 6), .ref (xa 7), .ref (xa 8), .ref (xa 9), .int 0, .ref (xa 11), .null, .int 0, .int (-1)])), ((xa 1), .inl (cy 0, 1600, .inl (fun _ => 0))), ((xa 2), .inr (4, [.int 0, .int (-1), .ref (xa 30), .int 0, .int 0, .int 0, .int 0, .int 0, .ref (xa 31), .int 0, .int 0, .int 0])), ((xa 8), .inl (cy 4, 4, .inr (.inr (.inr (.inr (fun _ => none)))))), ((xa 9), .inl (cy 5, 3, .inr (.inr (.inr (.inr (fun _ => none)))))), ((xa 11), .inr (2, [.int 0, .int 0, .int 0, .int 0, .int 0, .int 0, .int 0, .int 0, .int 1, .int 10, .int 0, .int 0, .int 0, .int 0, .ref (xa 20), .ref (xa 21), .ref (xa 22), .ref (xa 23), .ref (xa 24), .ref (xa 25), .ref (xa 26)])), ((ma 1), .inl (cy 1, 4, .inl fw)), ((ma 2), .inl (cy 1, 4, .inl (fun _ => 0))), ((ma 3), .inl (cy 2, 240, .inr (.inl (fun _ => 0)))), ((ma 5), .inl (cy 0, 1600, .inl (fun _ => 0))), ((ma 16), .inl (cy 1, 5, .inl (fun _ => 0))), ((ma 19), .inl (cy 1, 45, .inl (fun _ => 0))), ((ma 21), .inl (cy 1, 150, .inl (fun _ => 0))), ((ma 22), .inl (cy 1, 5, .inl (fun _ => 0))), ((ma 23), .inl (cy 1, 120, .inl (fun _ => 0))), ((ma 24), .inl (cy 1, 30, .inl (fun _ => 0))), ((ma 25), .inl (cy 3, 15, .inl (fun _ => 0))), ((ma 26), .inl (cy 1, 5, .inl (fun _ => 0))), ((ma 27), .inl (cy 1, 30, .inl (fun _ => 0))), ((ma 28), .inl (cy 3, 3, .inl (fun _ => 0)))]) (runV (As := [.int (xs 1), .int (xs 2), .int (xs 3), .int (xs 4)]) (rest := [.long (-2)]) ⟨hx, hb, hml, hown, hts⟩ (g_X10_path l D cy ma (xs 1) (xs 2) (xs 3) (xs 4)  H.size) sV_L_142 hK (va_recv hK.1 hP (ci := 10) (q0 := 6) rfl rfl) (PW.of hP hD [6, 15, 13, 12] (by decide) rfl rfl) ⟨Nat.le_of_ble_eq_true rfl, Nat.le_of_ble_eq_true rfl⟩ rfl hl.1 rfl (Nat.le_of_ble_eq_true rfl) dL_law_1391 ⟨Nat.le_of_ble_eq_true rfl, Nat.le_of_ble_eq_true rfl⟩) hP hD hS hA [6, 15, 13, 12] [0, 1, 2, 3, 4, 5, 7, 8, 9, 10, 11, 14, 16, 17, 18, 19, 20, 21, 22, 23] rfl rfl (by decide) (by decide) (fun v u_10 H locs hv hP hD hS => ?_)
  have hP : va_P D vwCl [((xa 0), .inr (9, [.ref (xa 1), .ref (xa 2), .ref (xa 3), .ref (xa 4), .ref (xa 5), .ref (xa 6), .ref (xa 7), .ref (xa 8), .ref (xa 9), .int 0, .ref (xa 11), .null, .int 0, .int (-1)])), ((xa 1), .inl (cy 0, 1600, .inl (fun _ => 0))), ((xa 2), .inr (4, [.int 0, .int (-1), .ref (xa 30), .int 0, .int 0, .int 0, .int 0, .int 0, .ref (xa 31), .int 0, .int 0, .int 0])), ((xa 8), .inl (cy 4, 4, .inr (.inr (.inr (.inr (fun _ => none)))))), ((xa 9), .inl (cy 5, 3, .inr (.inr (.inr (.inr (fun _ => none)))))), ((xa 11), .inr (2, [.int 0, .int 0, .int 0, .int 0, .int 0, .int 0, .int 0, .int 0, .int 1, .int 10, .int 0, .int 0, .int 0, .int 0, .ref (xa 20), .ref (xa 21), .ref (xa 22), .ref (xa 23), .ref (xa 24), .ref (xa 25), .ref (xa 26)])), ((ma 1), .inl (cy 1, 4, .inl fw)), ((ma 2), .inl (cy 1, 4, .inl (fun _ => 0))), ((ma 3), .inl (cy 2, 240, .inr (.inl (fun _ => 0)))), ((ma 5), .inl (cy 0, 1600, .inl (fun _ => 0))), ((ma 16), .inl (cy 1, 5, .inl (fun _ => 0))), ((ma 19), .inl (cy 1, 45, .inl (fun _ => 0))), ((ma 21), .inl (cy 1, 150, .inl (fun _ => 0))), ((ma 22), .inl (cy 1, 5, .inl (fun _ => 0))), ((ma 23), .inl (cy 1, 120, .inl (fun _ => 0))), ((ma 24), .inl (cy 1, 30, .inl (fun _ => 0))), ((ma 25), .inl (cy 3, 15, .inl (fun _ => 0))), ((ma 26), .inl (cy 1, 5, .inl (fun _ => 0))), ((ma 27), .inl (cy 1, 30, .inl (fun _ => 0))), ((ma 28), .inl (cy 3, 3, .inl (fun _ => 0)))] H := hP
  have hD : va_D A [((xa 0), .inr (9, [.ref (xa 1), .ref (xa 2), .ref (xa 3), .ref (xa 4), .ref (xa 5), .ref (xa 6), .ref (xa 7), .ref (xa 8), .ref (xa 9), .int 0, .ref (xa 11), .null, .int 0, .int (-1)])), ((xa 1), .inl (cy 0, 1600, .inl (fun _ => 0))), ((xa 2), .inr (4, [.int 0, .int (-1), .ref (xa 30), .int 0, .int 0, .int 0, .int 0, .int 0, .ref (xa 31), .int 0, .int 0, .int 0])), ((xa 8), .inl (cy 4, 4, .inr (.inr (.inr (.inr (fun _ => none)))))), ((xa 9), .inl (cy 5, 3, .inr (.inr (.inr (.inr (fun _ => none)))))), ((xa 11), .inr (2, [.int 0, .int 0, .int 0, .int 0, .int 0, .int 0, .int 0, .int 0, .int 1, .int 10, .int 0, .int 0, .int 0, .int 0, .ref (xa 20), .ref (xa 21), .ref (xa 22), .ref (xa 23), .ref (xa 24), .ref (xa 25), .ref (xa 26)])), ((ma 1), .inl (cy 1, 4, .inl fw)), ((ma 2), .inl (cy 1, 4, .inl (fun _ => 0))), ((ma 3), .inl (cy 2, 240, .inr (.inl (fun _ => 0)))), ((ma 5), .inl (cy 0, 1600, .inl (fun _ => 0))), ((ma 16), .inl (cy 1, 5, .inl (fun _ => 0))), ((ma 19), .inl (cy 1, 45, .inl (fun _ => 0))), ((ma 21), .inl (cy 1, 150, .inl (fun _ => 0))), ((ma 22), .inl (cy 1, 5, .inl (fun _ => 0))), ((ma 23), .inl (cy 1, 120, .inl (fun _ => 0))), ((ma 24), .inl (cy 1, 30, .inl (fun _ => 0))), ((ma 25), .inl (cy 3, 15, .inl (fun _ => 0))), ((ma 26), .inl (cy 1, 5, .inl (fun _ => 0))), ((ma 27), .inl (cy 1, 30, .inl (fun _ => 0))), ((ma 28), .inl (cy 3, 3, .inl (fun _ => 0)))] := hD
  obtain ⟨r_11, rfl, hr_11⟩ := hv
  have er_11 := hr_11
  subst er_11
  refine W.eq (g2 := F0 m 1394 ls [.long (-2), .long (-2)]) rfl ?_
  refine W.lcmp hx hb dL_law_1394 ?_
  refine lv_topi (fun z_12 ez_12 => ?_)
  have ez_12 : z_12 = 0 := ez_12.trans (by decide)
  subst ez_12
  refine lv_if_eq (tgt := 2286) hx hb dL_law_1395 (by decide) (fun _ => ?_) (fun c_13 => absurd (by decide) c_13)
  exact law_end C0 hL7 hA2 hbA hS (lv_sub hl [0, 1, 2, 3] rfl) (Nat.le_of_ble_eq_true rfl) (Nat.le_of_ble_eq_true rfl)
