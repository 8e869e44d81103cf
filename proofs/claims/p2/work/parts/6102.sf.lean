abbrev ky_1300_Colouring_isCheaper : gKey := (cX1_isCheaper, 3, yX1_isCheaper.cls, (some FieldType.boolean), [], yX1_isCheaper.name, fun _ _ => True)
abbrev po_1300_Colouring_isCheaper (I : FieldType → ClassId) (q1261 : Nat) (q1262 : Nat) (q1263 : Nat) (q1264 : Nat) (q1265 : Nat) (q1266 : Nat) (q1267 : Nat) (q1268 : Nat) (q1269 : Nat) (q1270 : Nat) (q1271 : Nat) (q1272 : Nat) (q1273 : Nat) (q1274 : Nat) (q1275 : Nat) (p1276 : Int32) (p1277 : Int32) (p1278 : Int32) (p1279 : Int32) (p1280 : Int32) (p1281 : Int32) (f1282 : Nat → Int32) (f1283 : Nat → Int32) (f1284 : Nat → Int32) (f1285 : Nat → Int32) (f1286 : Nat → Int32) (p1287 : Int32) (p1288 : Int32) (p1289 : Int32) (f1290 : Nat → Int64) (f1291 : Nat → Int64) (f1292 : Nat → Int32) (f1293 : Nat → Int64) (f1294 : Nat → Int64) (f1295 : Nat → Int64) (f1296 : Nat → Int64) : Option Value → va_W → Prop := fun r w => (∃ (z1311 : Int32), r = some (.int 0) ∧ w = [(q1261, .inr (6, [.ref q1262, .ref q1263, .ref q1264, .ref q1265, .ref q1266, .ref q1267, .int p1278, .int p1279])), (q1262, .inr (8, [.ref q1268, .ref q1269, .ref q1270, .ref q1271, .int p1280, .int p1281])), (q1263, .inl (I .int, 720, .inl f1282)), (q1264, .inl (I .int, 720, .inl f1283)), (q1265, .inl (I .int, 720, .inl f1284)), (q1266, .inl (I .int, 720, .inl f1285)), (q1267, .inl (I .int, 720, .inl f1286)), (q1268, .inr (10, [.ref q1272, .ref q1273, .ref q1274, .ref q1275, .int p1287, .int p1288, .int p1289])), (q1269, .inl (I .long, 8640, .inr (.inl f1290))), (q1270, .inl (I .long, 12, .inr (.inl f1291))), (q1271, .inl (I .int, 720, .inl f1292)), (q1272, .inl (I .long, 480, .inr (.inl f1293))), (q1273, .inl (I .long, 480, .inr (.inl f1294))), (q1274, .inl (I .long, 480, .inr (.inl f1295))), (q1275, .inl (I .long, 12, .inr (.inl f1296)))] ∧ 0 ≤ z1311.toInt ∧ gB z1311 0 1) ∨ (∃ (z1311 : Int32), r = some (.int 1) ∧ w = [(q1261, .inr (6, [.ref q1262, .ref q1263, .ref q1264, .ref q1265, .ref q1266, .ref q1267, .int p1278, .int p1279])), (q1262, .inr (8, [.ref q1268, .ref q1269, .ref q1270, .ref q1271, .int p1280, .int p1281])), (q1263, .inl (I .int, 720, .inl f1282)), (q1264, .inl (I .int, 720, .inl f1283)), (q1265, .inl (I .int, 720, .inl f1284)), (q1266, .inl (I .int, 720, .inl f1285)), (q1267, .inl (I .int, 720, .inl f1286)), (q1268, .inr (10, [.ref q1272, .ref q1273, .ref q1274, .ref q1275, .int p1287, .int p1288, .int p1289])), (q1269, .inl (I .long, 8640, .inr (.inl f1290))), (q1270, .inl (I .long, 12, .inr (.inl f1291))), (q1271, .inl (I .int, 720, .inl f1292)), (q1272, .inl (I .long, 480, .inr (.inl f1293))), (q1273, .inl (I .long, 480, .inr (.inl f1294))), (q1274, .inl (I .long, 480, .inr (.inl f1295))), (q1275, .inl (I .long, 12, .inr (.inl f1296)))] ∧ z1311.toInt < 0 ∧ gB z1311 (-1) (-1))
set_option maxRecDepth 100000 in
set_option maxHeartbeats 4000000 in
theorem ct_1300_Colouring_isCheaper (l : Launch) (hl0 : l.stackTraces = false) (D : va_G) (I : FieldType → ClassId) (q1261 : Nat) (q1262 : Nat) (q1263 : Nat) (q1264 : Nat) (q1265 : Nat) (q1266 : Nat) (q1267 : Nat) (q1268 : Nat) (q1269 : Nat) (q1270 : Nat) (q1271 : Nat) (q1272 : Nat) (q1273 : Nat) (q1274 : Nat) (q1275 : Nat) (p1276 : Int32) (p1277 : Int32) (p1278 : Int32) (p1279 : Int32) (p1280 : Int32) (p1281 : Int32) (f1282 : Nat → Int32) (f1283 : Nat → Int32) (f1284 : Nat → Int32) (f1285 : Nat → Int32) (f1286 : Nat → Int32) (p1287 : Int32) (p1288 : Int32) (p1289 : Int32) (f1290 : Nat → Int64) (f1291 : Nat → Int64) (f1292 : Nat → Int32) (f1293 : Nat → Int64) (f1294 : Nat → Int64) (f1295 : Nat → Int64) (f1296 : Nat → Int64) (bp1276 : gB p1276 0 719) (bp1277 : gB p1277 0 719) (bp1278 : gB p1278 0 720) (bp1279 : gB p1279 0 720) (bp1280 : gB p1280 0 720) (bp1281 : gB p1281 0 12) (bf1284 : gF f1284 0 719) (bf1285 : gF f1285 0 719) (bp1287 : gB p1287 0 720) (bp1288 : gB p1288 0 12) (bp1289 : gB p1289 0 1) (x1297 : p1281.toInt = (p1280.toInt + 63) / 64) (x1298 : lb_W f1290 (p1280.toInt * p1281.toInt) (p1281.toInt) (p1280.toInt)) (x1299 : p1288.toInt = (p1287.toInt + 63) / 64) : Ct (gV D I) l yX1_isCheaper cX1_isCheaper 3 (some FieldType.boolean) 0 0 0 0 [.ref q1261, .int p1276, .int p1277] [(q1261, .inr (6, [.ref q1262, .ref q1263, .ref q1264, .ref q1265, .ref q1266, .ref q1267, .int p1278, .int p1279])), (q1262, .inr (8, [.ref q1268, .ref q1269, .ref q1270, .ref q1271, .int p1280, .int p1281])), (q1263, .inl (I .int, 720, .inl f1282)), (q1264, .inl (I .int, 720, .inl f1283)), (q1265, .inl (I .int, 720, .inl f1284)), (q1266, .inl (I .int, 720, .inl f1285)), (q1267, .inl (I .int, 720, .inl f1286)), (q1268, .inr (10, [.ref q1272, .ref q1273, .ref q1274, .ref q1275, .int p1287, .int p1288, .int p1289])), (q1269, .inl (I .long, 8640, .inr (.inl f1290))), (q1270, .inl (I .long, 12, .inr (.inl f1291))), (q1271, .inl (I .int, 720, .inl f1292)), (q1272, .inl (I .long, 480, .inr (.inl f1293))), (q1273, .inl (I .long, 480, .inr (.inl f1294))), (q1274, .inl (I .long, 480, .inr (.inl f1295))), (q1275, .inl (I .long, 12, .inr (.inl f1296)))] (po_1300_Colouring_isCheaper I q1261 q1262 q1263 q1264 q1265 q1266 q1267 q1268 q1269 q1270 q1271 q1272 q1273 q1274 q1275 p1276 p1277 p1278 p1279 p1280 p1281 f1282 f1283 f1284 f1285 f1286 p1287 p1288 p1289 f1290 f1291 f1292 f1293 f1294 f1295 f1296) gN := by
  refine Ct_of hl0 (by decide) (Nat.le_of_ble_eq_true rfl) ?_
  refine G_aload_n 0 d_cX1_isCheaper_0 rfl ?_
  refine G_getf 0 1 d_cX1_isCheaper_1 rfl (gk_X1 D I) (Nat.le_of_ble_eq_true rfl) w_2_79 rfl ?_
  refine G_iload_n 1 d_cX1_isCheaper_4 rfl ?_
  refine G_iald 2 0 d_cX1_isCheaper_5 rfl rfl (gB_in bp1276 (by decide) (by decide)) (G_nam fun z1301 hz1301 => ?_)
  have bz1301 : gB z1301 (-2147483648) 2147483647 := gB_any z1301
  refine G_i2l d_cX1_isCheaper_6 (G_namL fun u1302 hu1302 => ?_)
  refine G_aload_n 0 d_cX1_isCheaper_7 rfl ?_
  refine G_getf 0 2 d_cX1_isCheaper_8 rfl (gk_X1 D I) (Nat.le_of_ble_eq_true rfl) w_2_80 rfl ?_
  refine G_iload_n 2 d_cX1_isCheaper_11 rfl ?_
  refine G_iald 3 0 d_cX1_isCheaper_12 rfl rfl (gB_in bp1277 (by decide) (by decide)) (G_nam fun z1303 hz1303 => ?_)
  have bz1303 : gB z1303 (-2147483648) 2147483647 := gB_any z1303
  refine G_i2l d_cX1_isCheaper_13 (G_namL fun u1304 hu1304 => ?_)
  refine G_lmul d_cX1_isCheaper_14 (G_namL fun u1305 hu1305 => ?_)
  refine G_aload_n 0 d_cX1_isCheaper_15 rfl ?_
  refine G_getf 0 1 d_cX1_isCheaper_16 rfl (gk_X1 D I) (Nat.le_of_ble_eq_true rfl) w_2_79 rfl ?_
  refine G_iload_n 2 d_cX1_isCheaper_19 rfl ?_
  refine G_iald 2 0 d_cX1_isCheaper_20 rfl rfl (gB_in bp1277 (by decide) (by decide)) (G_nam fun z1306 hz1306 => ?_)
  have bz1306 : gB z1306 (-2147483648) 2147483647 := gB_any z1306
  refine G_i2l d_cX1_isCheaper_21 (G_namL fun u1307 hu1307 => ?_)
  refine G_aload_n 0 d_cX1_isCheaper_22 rfl ?_
  refine G_getf 0 2 d_cX1_isCheaper_23 rfl (gk_X1 D I) (Nat.le_of_ble_eq_true rfl) w_2_80 rfl ?_
  refine G_iload_n 1 d_cX1_isCheaper_26 rfl ?_
  refine G_iald 3 0 d_cX1_isCheaper_27 rfl rfl (gB_in bp1276 (by decide) (by decide)) (G_nam fun z1308 hz1308 => ?_)
  have bz1308 : gB z1308 (-2147483648) 2147483647 := gB_any z1308
  refine G_i2l d_cX1_isCheaper_28 (G_namL fun u1309 hu1309 => ?_)
  refine G_lmul d_cX1_isCheaper_29 (G_namL fun u1310 hu1310 => ?_)
  refine G_lcmp d_cX1_isCheaper_30 (G_nam fun z1311 hz1311 => ?_)
  have bz1311 : gB z1311 (-1) 1 := gB_cmp hz1311
  refine G_if_ge 38 d_cX1_isCheaper_31 (by decide +kernel) (fun hc1312 => ?_) (fun hc1312 => ?_)
  · have r1313 : 0 ≤ z1311.toInt := gj_leL hc1312 (show Int32.toInt 0 = 0 by decide)
    have bz1311' : gB z1311 0 1 := ⟨by omega, by omega⟩
    refine G_iconst 0 d_cX1_isCheaper_38 (by decide +kernel) ?_
    exact G_zret FieldType.boolean d_cX1_isCheaper_39 rfl rfl (Nat.le_of_ble_eq_true rfl) (Nat.le_of_ble_eq_true rfl) (Or.inl ⟨z1311, rfl, rfl, r1313, bz1311'⟩)
  · have r1314 : z1311.toInt < 0 := gj_nleL hc1312 (show Int32.toInt 0 = 0 by decide)
    have bz1311' : gB z1311 (-1) (-1) := ⟨by omega, by omega⟩
    have lhc1312 := gC_cmpS hz1311 (by omega)
    refine G_iconst 1 d_cX1_isCheaper_34 (by decide +kernel) ?_
    refine G_goto 39 d_cX1_isCheaper_35 (by decide +kernel) ?_
    exact G_zret FieldType.boolean d_cX1_isCheaper_39 rfl rfl (Nat.le_of_ble_eq_true rfl) (Nat.le_of_ble_eq_true rfl) (Or.inr (⟨z1311, rfl, rfl, r1314, bz1311'⟩))
abbrev ky_1354_Colouring_nextOfRest : gKey := (cX1_nextOfRest, 4, yX1_nextOfRest.cls, (some FieldType.int), [], yX1_nextOfRest.name, fun _ _ => True)
abbrev po_1354_Colouring_nextOfRest (I : FieldType → ClassId) (q1315 : Nat) (q1316 : Nat) (q1317 : Nat) (q1318 : Nat) (q1319 : Nat) (q1320 : Nat) (q1321 : Nat) (q1322 : Nat) (q1323 : Nat) (q1324 : Nat) (q1325 : Nat) (q1326 : Nat) (q1327 : Nat) (q1328 : Nat) (q1329 : Nat) (p1330 : Int32) (p1331 : Int32) (p1332 : Int32) (p1333 : Int32) (p1334 : Int32) (f1335 : Nat → Int32) (f1336 : Nat → Int32) (f1337 : Nat → Int32) (f1338 : Nat → Int32) (f1339 : Nat → Int32) (p1340 : Int32) (p1341 : Int32) (p1342 : Int32) (f1343 : Nat → Int64) (f1344 : Nat → Int64) (f1345 : Nat → Int32) (f1346 : Nat → Int64) (f1347 : Nat → Int64) (f1348 : Nat → Int64) (f1349 : Nat → Int64) : Option Value → va_W → Prop := fun r w => ∃ (o2240 : Int32), r = some (.int o2240) ∧ w = [(q1315, .inr (6, [.ref q1316, .ref q1317, .ref q1318, .ref q1319, .ref q1320, .ref q1321, .int p1331, .int p1332])), (q1316, .inr (8, [.ref q1322, .ref q1323, .ref q1324, .ref q1325, .int p1333, .int p1334])), (q1317, .inl (I .int, 720, .inl f1335)), (q1318, .inl (I .int, 720, .inl f1336)), (q1319, .inl (I .int, 720, .inl f1337)), (q1320, .inl (I .int, 720, .inl f1338)), (q1321, .inl (I .int, 720, .inl f1339)), (q1322, .inr (10, [.ref q1326, .ref q1327, .ref q1328, .ref q1329, .int p1340, .int p1341, .int p1342])), (q1323, .inl (I .long, 8640, .inr (.inl f1343))), (q1324, .inl (I .long, 12, .inr (.inl f1344))), (q1325, .inl (I .int, 720, .inl f1345)), (q1326, .inl (I .long, 480, .inr (.inl f1346))), (q1327, .inl (I .long, 480, .inr (.inl f1347))), (q1328, .inl (I .long, 480, .inr (.inl f1348))), (q1329, .inl (I .long, 12, .inr (.inl f1349)))] ∧ gB o2240 0 2147483647 ∧ o2240.toInt < p1331.toInt
set_option maxRecDepth 100000 in
set_option maxHeartbeats 4000000 in
theorem ct_1354_Colouring_nextOfRest (l : Launch) (hl0 : l.stackTraces = false) (D : va_G) (I : FieldType → ClassId) (q1315 : Nat) (q1316 : Nat) (q1317 : Nat) (q1318 : Nat) (q1319 : Nat) (q1320 : Nat) (q1321 : Nat) (q1322 : Nat) (q1323 : Nat) (q1324 : Nat) (q1325 : Nat) (q1326 : Nat) (q1327 : Nat) (q1328 : Nat) (q1329 : Nat) (p1330 : Int32) (p1331 : Int32) (p1332 : Int32) (p1333 : Int32) (p1334 : Int32) (f1335 : Nat → Int32) (f1336 : Nat → Int32) (f1337 : Nat → Int32) (f1338 : Nat → Int32) (f1339 : Nat → Int32) (p1340 : Int32) (p1341 : Int32) (p1342 : Int32) (f1343 : Nat → Int64) (f1344 : Nat → Int64) (f1345 : Nat → Int32) (f1346 : Nat → Int64) (f1347 : Nat → Int64) (f1348 : Nat → Int64) (f1349 : Nat → Int64) (bp1331 : gB p1331 0 720) (bp1332 : gB p1332 0 720) (bp1333 : gB p1333 0 720) (bp1334 : gB p1334 0 12) (bf1337 : gF f1337 0 719) (bf1338 : gF f1338 0 719) (bp1340 : gB p1340 0 720) (bp1341 : gB p1341 0 12) (bp1342 : gB p1342 0 1) (x1350 : 1 ≤ p1331.toInt) (x1351 : p1334.toInt = (p1333.toInt + 63) / 64) (x1352 : lb_W f1343 (p1333.toInt * p1334.toInt) (p1334.toInt) (p1333.toInt)) (x1353 : p1341.toInt = (p1340.toInt + 63) / 64) : Ct (gV D I) l yX1_nextOfRest cX1_nextOfRest 4 (some FieldType.int) 1 22 0 0 [.ref q1315, .int p1330] [(q1315, .inr (6, [.ref q1316, .ref q1317, .ref q1318, .ref q1319, .ref q1320, .ref q1321, .int p1331, .int p1332])), (q1316, .inr (8, [.ref q1322, .ref q1323, .ref q1324, .ref q1325, .int p1333, .int p1334])), (q1317, .inl (I .int, 720, .inl f1335)), (q1318, .inl (I .int, 720, .inl f1336)), (q1319, .inl (I .int, 720, .inl f1337)), (q1320, .inl (I .int, 720, .inl f1338)), (q1321, .inl (I .int, 720, .inl f1339)), (q1322, .inr (10, [.ref q1326, .ref q1327, .ref q1328, .ref q1329, .int p1340, .int p1341, .int p1342])), (q1323, .inl (I .long, 8640, .inr (.inl f1343))), (q1324, .inl (I .long, 12, .inr (.inl f1344))), (q1325, .inl (I .int, 720, .inl f1345)), (q1326, .inl (I .long, 480, .inr (.inl f1346))), (q1327, .inl (I .long, 480, .inr (.inl f1347))), (q1328, .inl (I .long, 480, .inr (.inl f1348))), (q1329, .inl (I .long, 12, .inr (.inl f1349)))] (po_1354_Colouring_nextOfRest I q1315 q1316 q1317 q1318 q1319 q1320 q1321 q1322 q1323 q1324 q1325 q1326 q1327 q1328 q1329 p1330 p1331 p1332 p1333 p1334 f1335 f1336 f1337 f1338 f1339 p1340 p1341 p1342 f1343 f1344 f1345 f1346 f1347 f1348 f1349) gN := by
  refine Ct_of hl0 (by decide) (Nat.le_of_ble_eq_true rfl) ?_
  have bp1330 := gB_any p1330
  refine G_iconst 0 d_cX1_nextOfRest_0 (by decide +kernel) ?_
  refine G_istore_n (L' := [(2, .int 0), (0, .ref q1315), (1, .int p1330)]) d_cX1_nextOfRest_1 (Nat.le_of_ble_eq_true rfl) rfl ?_
  have hlp2_2025 : ∀ (n2_2025 : Nat) (g2025 : Int32), gB g2025 0 720 → ((721 : Int) - g2025.toInt).toNat < n2_2025 → G (gV D I) l (gRm 1 22 0 0) (gM (gV D I) (po_1354_Colouring_nextOfRest I q1315 q1316 q1317 q1318 q1319 q1320 q1321 q1322 q1323 q1324 q1325 q1326 q1327 q1328 q1329 p1330 p1331 p1332 p1333 p1334 f1335 f1336 f1337 f1338 f1339 p1340 p1341 p1342 f1343 f1344 f1345 f1346 f1347 f1348 f1349) gN 0 0) ky_1354_Colouring_nextOfRest 2 [(2, .int g2025), (0, .ref q1315), (1, .int p1330)] [] [(q1315, .inr (6, [.ref q1316, .ref q1317, .ref q1318, .ref q1319, .ref q1320, .ref q1321, .int p1331, .int p1332])), (q1316, .inr (8, [.ref q1322, .ref q1323, .ref q1324, .ref q1325, .int p1333, .int p1334])), (q1317, .inl (I .int, 720, .inl f1335)), (q1318, .inl (I .int, 720, .inl f1336)), (q1319, .inl (I .int, 720, .inl f1337)), (q1320, .inl (I .int, 720, .inl f1338)), (q1321, .inl (I .int, 720, .inl f1339)), (q1322, .inr (10, [.ref q1326, .ref q1327, .ref q1328, .ref q1329, .int p1340, .int p1341, .int p1342])), (q1323, .inl (I .long, 8640, .inr (.inl f1343))), (q1324, .inl (I .long, 12, .inr (.inl f1344))), (q1325, .inl (I .int, 720, .inl f1345)), (q1326, .inl (I .long, 480, .inr (.inl f1346))), (q1327, .inl (I .long, 480, .inr (.inl f1347))), (q1328, .inl (I .long, 480, .inr (.inl f1348))), (q1329, .inl (I .long, 12, .inr (.inl f1349)))] 0 0 := by
    intro n2_2025
    induction n2_2025 with
    | zero => intro g2025 bg2025 hm2_2025; exact absurd hm2_2025 (Nat.not_lt_zero _)
    | succ n2_2025 ih2_2025 =>
      intro g2025 bg2025 hm2_2025
      refine G_iload_n 0 d_cX1_nextOfRest_2 rfl ?_
      refine G_aload_n 1 d_cX1_nextOfRest_3 rfl ?_
      refine G_getf 0 6 d_cX1_nextOfRest_4 rfl (gk_X1 D I) (Nat.le_of_ble_eq_true rfl) w_2_84 rfl ?_
      refine G_icmp_ge 33 d_cX1_nextOfRest_7 (by decide +kernel) (fun hc2026 => ?_) (fun hc2026 => ?_)
      · have r2027 : p1331.toInt ≤ g2025.toInt := gC_le hc2026
        refine G_iconst 0 d_cX1_nextOfRest_33 (by decide +kernel) ?_
        refine G_istore_n (L' := [(2, .int 0), (0, .ref q1315), (1, .int p1330)]) d_cX1_nextOfRest_34 (Nat.le_of_ble_eq_true rfl) rfl ?_
        refine G_iconst 1 d_cX1_nextOfRest_35 (by decide +kernel) ?_
        refine G_istore_n (L' := [(3, .int 1), (2, .int 0), (0, .ref q1315), (1, .int p1330)]) d_cX1_nextOfRest_36 (Nat.le_of_ble_eq_true rfl) rfl ?_
        have hlp37_2204 : ∀ (n37_2204 : Nat) (g2202 : Int32) (g2203 : Int32), gB g2202 1 720 → gB g2203 0 2147483647 → g2203.toInt < p1331.toInt → ((721 : Int) - g2202.toInt).toNat < n37_2204 → G (gV D I) l (gRm 1 22 0 0) (gM (gV D I) (po_1354_Colouring_nextOfRest I q1315 q1316 q1317 q1318 q1319 q1320 q1321 q1322 q1323 q1324 q1325 q1326 q1327 q1328 q1329 p1330 p1331 p1332 p1333 p1334 f1335 f1336 f1337 f1338 f1339 p1340 p1341 p1342 f1343 f1344 f1345 f1346 f1347 f1348 f1349) gN 0 0) ky_1354_Colouring_nextOfRest 37 [(3, .int g2202), (2, .int g2203), (0, .ref q1315), (1, .int p1330)] [] [(q1315, .inr (6, [.ref q1316, .ref q1317, .ref q1318, .ref q1319, .ref q1320, .ref q1321, .int p1331, .int p1332])), (q1316, .inr (8, [.ref q1322, .ref q1323, .ref q1324, .ref q1325, .int p1333, .int p1334])), (q1317, .inl (I .int, 720, .inl f1335)), (q1318, .inl (I .int, 720, .inl f1336)), (q1319, .inl (I .int, 720, .inl f1337)), (q1320, .inl (I .int, 720, .inl f1338)), (q1321, .inl (I .int, 720, .inl f1339)), (q1322, .inr (10, [.ref q1326, .ref q1327, .ref q1328, .ref q1329, .int p1340, .int p1341, .int p1342])), (q1323, .inl (I .long, 8640, .inr (.inl f1343))), (q1324, .inl (I .long, 12, .inr (.inl f1344))), (q1325, .inl (I .int, 720, .inl f1345)), (q1326, .inl (I .long, 480, .inr (.inl f1346))), (q1327, .inl (I .long, 480, .inr (.inl f1347))), (q1328, .inl (I .long, 480, .inr (.inl f1348))), (q1329, .inl (I .long, 12, .inr (.inl f1349)))] 0 0 := by
          intro n37_2204
          induction n37_2204 with
          | zero => intro g2202 g2203 bg2202 bg2203 x2204 hm37_2204; exact absurd hm37_2204 (Nat.not_lt_zero _)
          | succ n37_2204 ih37_2204 =>
            intro g2202 g2203 bg2202 bg2203 x2204 hm37_2204
            refine G_iload_n 0 d_cX1_nextOfRest_37 rfl ?_
            refine G_aload_n 2 d_cX1_nextOfRest_38 rfl ?_
            refine G_getf 0 6 d_cX1_nextOfRest_39 rfl (gk_X1 D I) (Nat.le_of_ble_eq_true rfl) w_2_84 rfl ?_
            refine G_icmp_ge 94 d_cX1_nextOfRest_42 (by decide +kernel) (fun hc2205 => ?_) (fun hc2205 => ?_)
            · have r2206 : p1331.toInt ≤ g2202.toInt := gC_le hc2205
              refine G_iload_n 1 d_cX1_nextOfRest_94 rfl ?_
              exact G_iret d_cX1_nextOfRest_95 rfl (Nat.le_of_ble_eq_true rfl) (Nat.le_of_ble_eq_true rfl) ⟨g2203, rfl, rfl, bg2203, (by omega)⟩
            · have r2207 : g2202.toInt < p1331.toInt := gC_nle hc2205
              have bg2202' : gB g2202 1 719 := ⟨by omega, by omega⟩
              have bp1331' : gB p1331 2 720 := ⟨by omega, by omega⟩
              refine G_aload_n 2 d_cX1_nextOfRest_45 rfl ?_
              refine G_getf 0 3 d_cX1_nextOfRest_46 rfl (gk_X1 D I) (Nat.le_of_ble_eq_true rfl) w_2_81 rfl ?_
              refine G_iload_n 0 d_cX1_nextOfRest_49 rfl ?_
              refine G_iald 4 0 d_cX1_nextOfRest_50 rfl rfl (gB_in bg2202' (by decide) (by decide)) (G_nam fun z2208 hz2208 => ?_)
              have bz2208 : gB z2208 0 719 := by rw [hz2208]; exact bf1337 _
              refine G_bipush 100 d_cX1_nextOfRest_51 (by decide +kernel) ?_
              refine G_icmp_lt 67 d_cX1_nextOfRest_53 (by decide +kernel) (fun hc2209 => ?_) (fun hc2209 => ?_)
              · have r2210 : z2208.toInt < 100 := gj_lt hc2209 (show Int32.toInt 100 = 100 by decide)
                have bz2208' : gB z2208 0 99 := ⟨by omega, by omega⟩
                refine G_aload_n 2 d_cX1_nextOfRest_67 rfl ?_
                refine G_aload_n 2 d_cX1_nextOfRest_68 rfl ?_
                refine G_getf 0 3 d_cX1_nextOfRest_69 rfl (gk_X1 D I) (Nat.le_of_ble_eq_true rfl) w_2_81 rfl ?_
                refine G_iload_n 0 d_cX1_nextOfRest_72 rfl ?_
                refine G_iald 4 0 d_cX1_nextOfRest_73 rfl rfl (gB_in bg2202' (by decide) (by decide)) (G_eqi (y := z2208) hz2208.symm ?_)
                refine G_aload_n 2 d_cX1_nextOfRest_74 rfl ?_
                refine G_getf 0 3 d_cX1_nextOfRest_75 rfl (gk_X1 D I) (Nat.le_of_ble_eq_true rfl) w_2_81 rfl ?_
                refine G_iload_n 1 d_cX1_nextOfRest_78 rfl ?_
                refine G_iald 4 0 d_cX1_nextOfRest_79 rfl rfl (gB_inr (by omega) (by omega)) (G_nam fun z2211 hz2211 => ?_)
                have bz2211 : gB z2211 0 719 := by rw [hz2211]; exact bf1337 _
                refine G_callV (As := [.int z2208, .int z2211]) (wr := []) (gV_ok D I) (ct_1300_Colouring_isCheaper l hl0 D I q1315 q1316 q1317 q1318 q1319 q1320 q1321 q1322 q1323 q1324 q1325 q1326 q1327 q1328 q1329 z2208 z2211 p1331 p1332 p1333 p1334 f1335 f1336 f1337 f1338 f1339 p1340 p1341 p1342 f1343 f1344 f1345 f1346 f1347 f1348 f1349 (gB_w bz2208' (by decide) (by decide)) bz2211 (gB_w bp1331' (by decide) (by decide)) bp1332 bp1333 bp1334 bf1337 bf1338 bp1340 bp1341 bp1342 (by omega) x1352 (by omega)) d_cX1_nextOfRest_80 ⟨w_5_127, w_1_11, w_5_130, by decide, rfl, (Nat.le_of_ble_eq_true rfl), (Nat.le_of_ble_eq_true rfl)⟩ w_5_129 w_p_44 0 rfl rfl [0, 1, 2, 3, 4, 5, 6, 7, 8, 9, 10, 11, 12, 13, 14] [] rfl rfl rfl rfl (by decide) (Nat.le_of_ble_eq_true rfl) (Nat.le_of_ble_eq_true rfl) (Nat.le_of_ble_eq_true rfl) (fun r w hp => ?_) (fun _ _ _ z => z.elim)
                rcases hp with ⟨z2212, rfl, rfl, r2213, r2214⟩ | ⟨z2215, rfl, rfl, r2216, r2217⟩
                · change G _ _ _ _ _ _ _ (.int 0 :: _) _ _ _
                  refine G_ws (ws' := [(q1315, .inr (6, [.ref q1316, .ref q1317, .ref q1318, .ref q1319, .ref q1320, .ref q1321, .int p1331, .int p1332])), (q1316, .inr (8, [.ref q1322, .ref q1323, .ref q1324, .ref q1325, .int p1333, .int p1334])), (q1317, .inl (I .int, 720, .inl f1335)), (q1318, .inl (I .int, 720, .inl f1336)), (q1319, .inl (I .int, 720, .inl f1337)), (q1320, .inl (I .int, 720, .inl f1338)), (q1321, .inl (I .int, 720, .inl f1339)), (q1322, .inr (10, [.ref q1326, .ref q1327, .ref q1328, .ref q1329, .int p1340, .int p1341, .int p1342])), (q1323, .inl (I .long, 8640, .inr (.inl f1343))), (q1324, .inl (I .long, 12, .inr (.inl f1344))), (q1325, .inl (I .int, 720, .inl f1345)), (q1326, .inl (I .long, 480, .inr (.inl f1346))), (q1327, .inl (I .long, 480, .inr (.inl f1347))), (q1328, .inl (I .long, 480, .inr (.inl f1348))), (q1329, .inl (I .long, 12, .inr (.inl f1349)))]) (cs' := 0) (sl' := 0) rfl rfl rfl ?_
                  refine G_if_eq 88 d_cX1_nextOfRest_83 (by decide +kernel) (fun _ => ?_) (fun hc => absurd hc (by decide))
                  obtain ⟨z2218, hz2218⟩ : ∃ z : Int32, z = g2202 + Int32.ofInt 1 := ⟨_, rfl⟩
                  have ez2218 : z2218.toInt = g2202.toInt + 1 := gI_inc hz2218 (by decide) bg2202' (by decide) (by decide)
                  have bz2218 : gB z2218 2 720 := ⟨by omega, by omega⟩
                  refine G_iinc (L' := [(3, .int z2218), (2, .int g2203), (0, .ref q1315), (1, .int p1330)]) z2218 0 d_cX1_nextOfRest_88 rfl hz2218.symm (Nat.le_of_ble_eq_true rfl) rfl ?_
                  refine G_goto 37 d_cX1_nextOfRest_91 (by decide +kernel) ?_
                  exact ih37_2204 z2218 g2203 (gB_w bz2218 (by decide) (by decide)) bg2203 (by omega) (by omega)
                · change G _ _ _ _ _ _ _ (.int 1 :: _) _ _ _
                  refine G_ws (ws' := [(q1315, .inr (6, [.ref q1316, .ref q1317, .ref q1318, .ref q1319, .ref q1320, .ref q1321, .int p1331, .int p1332])), (q1316, .inr (8, [.ref q1322, .ref q1323, .ref q1324, .ref q1325, .int p1333, .int p1334])), (q1317, .inl (I .int, 720, .inl f1335)), (q1318, .inl (I .int, 720, .inl f1336)), (q1319, .inl (I .int, 720, .inl f1337)), (q1320, .inl (I .int, 720, .inl f1338)), (q1321, .inl (I .int, 720, .inl f1339)), (q1322, .inr (10, [.ref q1326, .ref q1327, .ref q1328, .ref q1329, .int p1340, .int p1341, .int p1342])), (q1323, .inl (I .long, 8640, .inr (.inl f1343))), (q1324, .inl (I .long, 12, .inr (.inl f1344))), (q1325, .inl (I .int, 720, .inl f1345)), (q1326, .inl (I .long, 480, .inr (.inl f1346))), (q1327, .inl (I .long, 480, .inr (.inl f1347))), (q1328, .inl (I .long, 480, .inr (.inl f1348))), (q1329, .inl (I .long, 12, .inr (.inl f1349)))]) (cs' := 0) (sl' := 0) rfl rfl rfl ?_
                  refine G_if_eq 88 d_cX1_nextOfRest_83 (by decide +kernel) (fun hc => absurd hc (by decide)) (fun _ => ?_)
                  refine G_iload_n 0 d_cX1_nextOfRest_86 rfl ?_
                  refine G_istore_n (L' := [(2, .int g2202), (3, .int g2202), (0, .ref q1315), (1, .int p1330)]) d_cX1_nextOfRest_87 (Nat.le_of_ble_eq_true rfl) rfl ?_
                  obtain ⟨z2219, hz2219⟩ : ∃ z : Int32, z = g2202 + Int32.ofInt 1 := ⟨_, rfl⟩
                  have ez2219 : z2219.toInt = g2202.toInt + 1 := gI_inc hz2219 (by decide) bg2202' (by decide) (by decide)
                  have bz2219 : gB z2219 2 720 := ⟨by omega, by omega⟩
                  refine G_iinc (L' := [(3, .int z2219), (2, .int g2202), (0, .ref q1315), (1, .int p1330)]) z2219 1 d_cX1_nextOfRest_88 rfl hz2219.symm (Nat.le_of_ble_eq_true rfl) rfl ?_
                  refine G_goto 37 d_cX1_nextOfRest_91 (by decide +kernel) ?_
                  exact ih37_2204 z2219 g2202 (gB_w bz2219 (by decide) (by decide)) (gB_w bg2202' (by decide) (by decide)) (by omega) (by omega)
              · have r2220 : 100 ≤ z2208.toInt := gj_nlt hc2209 (show Int32.toInt 100 = 100 by decide)
                have bz2208' : gB z2208 100 719 := ⟨by omega, by omega⟩
                refine G_aload_n 2 d_cX1_nextOfRest_56 rfl ?_
                refine G_getf 0 3 d_cX1_nextOfRest_57 rfl (gk_X1 D I) (Nat.le_of_ble_eq_true rfl) w_2_81 rfl ?_
                refine G_iload_n 1 d_cX1_nextOfRest_60 rfl ?_
                refine G_iald 4 0 d_cX1_nextOfRest_61 rfl rfl (gB_inr (by omega) (by omega)) (G_nam fun z2221 hz2221 => ?_)
                have bz2221 : gB z2221 0 719 := by rw [hz2221]; exact bf1337 _
                refine G_bipush 100 d_cX1_nextOfRest_62 (by decide +kernel) ?_
                refine G_icmp_lt 94 d_cX1_nextOfRest_64 (by decide +kernel) (fun hc2222 => ?_) (fun hc2222 => ?_)
                · have r2223 : z2221.toInt < 100 := gj_lt hc2222 (show Int32.toInt 100 = 100 by decide)
                  have bz2221' : gB z2221 0 99 := ⟨by omega, by omega⟩
                  refine G_iload_n 1 d_cX1_nextOfRest_94 rfl ?_
                  exact G_iret d_cX1_nextOfRest_95 rfl (Nat.le_of_ble_eq_true rfl) (Nat.le_of_ble_eq_true rfl) ⟨g2203, rfl, rfl, bg2203, (by omega)⟩
                · have r2224 : 100 ≤ z2221.toInt := gj_nlt hc2222 (show Int32.toInt 100 = 100 by decide)
                  have bz2221' : gB z2221 100 719 := ⟨by omega, by omega⟩
                  refine G_aload_n 2 d_cX1_nextOfRest_67 rfl ?_
                  refine G_aload_n 2 d_cX1_nextOfRest_68 rfl ?_
                  refine G_getf 0 3 d_cX1_nextOfRest_69 rfl (gk_X1 D I) (Nat.le_of_ble_eq_true rfl) w_2_81 rfl ?_
                  refine G_iload_n 0 d_cX1_nextOfRest_72 rfl ?_
                  refine G_iald 4 0 d_cX1_nextOfRest_73 rfl rfl (gB_in bg2202' (by decide) (by decide)) (G_eqi (y := z2208) hz2208.symm ?_)
                  refine G_aload_n 2 d_cX1_nextOfRest_74 rfl ?_
                  refine G_getf 0 3 d_cX1_nextOfRest_75 rfl (gk_X1 D I) (Nat.le_of_ble_eq_true rfl) w_2_81 rfl ?_
                  refine G_iload_n 1 d_cX1_nextOfRest_78 rfl ?_
                  refine G_iald 4 0 d_cX1_nextOfRest_79 rfl rfl (gB_inr (by omega) (by omega)) (G_eqi (y := z2221) hz2221.symm ?_)
                  refine G_callV (As := [.int z2208, .int z2221]) (wr := []) (gV_ok D I) (ct_1300_Colouring_isCheaper l hl0 D I q1315 q1316 q1317 q1318 q1319 q1320 q1321 q1322 q1323 q1324 q1325 q1326 q1327 q1328 q1329 z2208 z2221 p1331 p1332 p1333 p1334 f1335 f1336 f1337 f1338 f1339 p1340 p1341 p1342 f1343 f1344 f1345 f1346 f1347 f1348 f1349 (gB_w bz2208' (by decide) (by decide)) (gB_w bz2221' (by decide) (by decide)) (gB_w bp1331' (by decide) (by decide)) bp1332 bp1333 bp1334 bf1337 bf1338 bp1340 bp1341 bp1342 (by omega) x1352 (by omega)) d_cX1_nextOfRest_80 ⟨w_5_127, w_1_11, w_5_130, by decide, rfl, (Nat.le_of_ble_eq_true rfl), (Nat.le_of_ble_eq_true rfl)⟩ w_5_129 w_p_44 0 rfl rfl [0, 1, 2, 3, 4, 5, 6, 7, 8, 9, 10, 11, 12, 13, 14] [] rfl rfl rfl rfl (by decide) (Nat.le_of_ble_eq_true rfl) (Nat.le_of_ble_eq_true rfl) (Nat.le_of_ble_eq_true rfl) (fun r w hp => ?_) (fun _ _ _ z => z.elim)
                  rcases hp with ⟨z2225, rfl, rfl, r2226, r2227⟩ | ⟨z2228, rfl, rfl, r2229, r2230⟩
                  · change G _ _ _ _ _ _ _ (.int 0 :: _) _ _ _
                    refine G_ws (ws' := [(q1315, .inr (6, [.ref q1316, .ref q1317, .ref q1318, .ref q1319, .ref q1320, .ref q1321, .int p1331, .int p1332])), (q1316, .inr (8, [.ref q1322, .ref q1323, .ref q1324, .ref q1325, .int p1333, .int p1334])), (q1317, .inl (I .int, 720, .inl f1335)), (q1318, .inl (I .int, 720, .inl f1336)), (q1319, .inl (I .int, 720, .inl f1337)), (q1320, .inl (I .int, 720, .inl f1338)), (q1321, .inl (I .int, 720, .inl f1339)), (q1322, .inr (10, [.ref q1326, .ref q1327, .ref q1328, .ref q1329, .int p1340, .int p1341, .int p1342])), (q1323, .inl (I .long, 8640, .inr (.inl f1343))), (q1324, .inl (I .long, 12, .inr (.inl f1344))), (q1325, .inl (I .int, 720, .inl f1345)), (q1326, .inl (I .long, 480, .inr (.inl f1346))), (q1327, .inl (I .long, 480, .inr (.inl f1347))), (q1328, .inl (I .long, 480, .inr (.inl f1348))), (q1329, .inl (I .long, 12, .inr (.inl f1349)))]) (cs' := 0) (sl' := 0) rfl rfl rfl ?_
                    refine G_if_eq 88 d_cX1_nextOfRest_83 (by decide +kernel) (fun _ => ?_) (fun hc => absurd hc (by decide))
                    obtain ⟨z2231, hz2231⟩ : ∃ z : Int32, z = g2202 + Int32.ofInt 1 := ⟨_, rfl⟩
                    have ez2231 : z2231.toInt = g2202.toInt + 1 := gI_inc hz2231 (by decide) bg2202' (by decide) (by decide)
                    have bz2231 : gB z2231 2 720 := ⟨by omega, by omega⟩
                    refine G_iinc (L' := [(3, .int z2231), (2, .int g2203), (0, .ref q1315), (1, .int p1330)]) z2231 0 d_cX1_nextOfRest_88 rfl hz2231.symm (Nat.le_of_ble_eq_true rfl) rfl ?_
                    refine G_goto 37 d_cX1_nextOfRest_91 (by decide +kernel) ?_
                    exact ih37_2204 z2231 g2203 (gB_w bz2231 (by decide) (by decide)) bg2203 (by omega) (by omega)
                  · change G _ _ _ _ _ _ _ (.int 1 :: _) _ _ _
                    refine G_ws (ws' := [(q1315, .inr (6, [.ref q1316, .ref q1317, .ref q1318, .ref q1319, .ref q1320, .ref q1321, .int p1331, .int p1332])), (q1316, .inr (8, [.ref q1322, .ref q1323, .ref q1324, .ref q1325, .int p1333, .int p1334])), (q1317, .inl (I .int, 720, .inl f1335)), (q1318, .inl (I .int, 720, .inl f1336)), (q1319, .inl (I .int, 720, .inl f1337)), (q1320, .inl (I .int, 720, .inl f1338)), (q1321, .inl (I .int, 720, .inl f1339)), (q1322, .inr (10, [.ref q1326, .ref q1327, .ref q1328, .ref q1329, .int p1340, .int p1341, .int p1342])), (q1323, .inl (I .long, 8640, .inr (.inl f1343))), (q1324, .inl (I .long, 12, .inr (.inl f1344))), (q1325, .inl (I .int, 720, .inl f1345)), (q1326, .inl (I .long, 480, .inr (.inl f1346))), (q1327, .inl (I .long, 480, .inr (.inl f1347))), (q1328, .inl (I .long, 480, .inr (.inl f1348))), (q1329, .inl (I .long, 12, .inr (.inl f1349)))]) (cs' := 0) (sl' := 0) rfl rfl rfl ?_
                    refine G_if_eq 88 d_cX1_nextOfRest_83 (by decide +kernel) (fun hc => absurd hc (by decide)) (fun _ => ?_)
                    refine G_iload_n 0 d_cX1_nextOfRest_86 rfl ?_
                    refine G_istore_n (L' := [(2, .int g2202), (3, .int g2202), (0, .ref q1315), (1, .int p1330)]) d_cX1_nextOfRest_87 (Nat.le_of_ble_eq_true rfl) rfl ?_
                    obtain ⟨z2232, hz2232⟩ : ∃ z : Int32, z = g2202 + Int32.ofInt 1 := ⟨_, rfl⟩
                    have ez2232 : z2232.toInt = g2202.toInt + 1 := gI_inc hz2232 (by decide) bg2202' (by decide) (by decide)
                    have bz2232 : gB z2232 2 720 := ⟨by omega, by omega⟩
                    refine G_iinc (L' := [(3, .int z2232), (2, .int g2202), (0, .ref q1315), (1, .int p1330)]) z2232 1 d_cX1_nextOfRest_88 rfl hz2232.symm (Nat.le_of_ble_eq_true rfl) rfl ?_
                    refine G_goto 37 d_cX1_nextOfRest_91 (by decide +kernel) ?_
                    exact ih37_2204 z2232 g2202 (gB_w bz2232 (by decide) (by decide)) (gB_w bg2202' (by decide) (by decide)) (by omega) (by omega)
        exact hlp37_2204 (((721 : Int) - 1).toNat + 1) 1 0 (gB_w (gBl (show Int32.toInt 1 = 1 by decide)) (by decide) (by decide)) (gB_w (gBl (show Int32.toInt 0 = 0 by decide)) (by decide) (by decide)) (by have qa0 : Int32.toInt 0 = 0 := (by decide); have qa1 : Int32.toInt 1 = 1 := (by decide); omega) (Nat.lt_succ_self _)
      · have r2233 : g2025.toInt < p1331.toInt := gC_nle hc2026
        have bg2025' : gB g2025 0 719 := ⟨by omega, by omega⟩
        have bp1331' : gB p1331 1 720 := ⟨by omega, by omega⟩
        refine G_aload_n 1 d_cX1_nextOfRest_10 rfl ?_
        refine G_getf 0 2 d_cX1_nextOfRest_11 rfl (gk_X1 D I) (Nat.le_of_ble_eq_true rfl) w_2_80 rfl ?_
        refine G_aload_n 1 d_cX1_nextOfRest_14 rfl ?_
        refine G_getf 0 3 d_cX1_nextOfRest_15 rfl (gk_X1 D I) (Nat.le_of_ble_eq_true rfl) w_2_81 rfl ?_
        refine G_iload_n 0 d_cX1_nextOfRest_18 rfl ?_
        refine G_iald 4 0 d_cX1_nextOfRest_19 rfl rfl (gB_in bg2025' (by decide) (by decide)) (G_nam fun z2234 hz2234 => ?_)
        have bz2234 : gB z2234 0 719 := by rw [hz2234]; exact bf1337 _
        refine G_iald 3 0 d_cX1_nextOfRest_20 rfl rfl (gB_in bz2234 (by decide) (by decide)) (G_nam fun z2235 hz2235 => ?_)
        have bz2235 : gB z2235 (-2147483648) 2147483647 := gB_any z2235
        refine G_iload_n 2 d_cX1_nextOfRest_21 rfl ?_
        refine G_icmp_ge 27 d_cX1_nextOfRest_22 (by decide +kernel) (fun hc2236 => ?_) (fun hc2236 => ?_)
        · have r2237 : p1330.toInt ≤ z2235.toInt := gC_le hc2236
          obtain ⟨z2238, hz2238⟩ : ∃ z : Int32, z = g2025 + Int32.ofInt 1 := ⟨_, rfl⟩
          have ez2238 : z2238.toInt = g2025.toInt + 1 := gI_inc hz2238 (by decide) bg2025' (by decide) (by decide)
          have bz2238 : gB z2238 1 720 := ⟨by omega, by omega⟩
          refine G_iinc (L' := [(2, .int z2238), (0, .ref q1315), (1, .int p1330)]) z2238 0 d_cX1_nextOfRest_27 rfl hz2238.symm (Nat.le_of_ble_eq_true rfl) rfl ?_
          refine G_goto 2 d_cX1_nextOfRest_30 (by decide +kernel) ?_
          exact ih2_2025 z2238 (gB_w bz2238 (by decide) (by decide)) (by omega)
        · have r2239 : z2235.toInt < p1330.toInt := gC_nle hc2236
          have bz2235' : gB z2235 (-2147483648) 2147483646 := ⟨by omega, by omega⟩
          have bp1330' : gB p1330 (-2147483647) 2147483647 := ⟨by omega, by omega⟩
          refine G_iload_n 0 d_cX1_nextOfRest_25 rfl ?_
          exact G_iret d_cX1_nextOfRest_26 rfl (Nat.le_of_ble_eq_true rfl) (Nat.le_of_ble_eq_true rfl) ⟨g2025, rfl, rfl, (gB_w bg2025' (by decide) (by decide)), (by omega)⟩
  exact hlp2_2025 (((721 : Int) - 0).toNat + 1) 0 (gB_w (gBl (show Int32.toInt 0 = 0 by decide)) (by decide) (by decide)) (Nat.lt_succ_self _)
abbrev ky_2298_Long_bitCount : gKey := (cJ13_bitCount_95d88, 2, yJ13_bitCount_95d88.cls, (some FieldType.int), [], yJ13_bitCount_95d88.name, fun _ _ => True)
abbrev po_2298_Long_bitCount (I : FieldType → ClassId) (pl2297 : Int64) : Option Value → va_W → Prop := fun r w => ∃ (o2317 : Int32), r = some (.int o2317) ∧ w = [] ∧ gB o2317 0 127 ∧ o2317 = lb_bc pl2297
set_option maxRecDepth 100000 in
set_option maxHeartbeats 4000000 in
theorem ct_2298_Long_bitCount (l : Launch) (hl0 : l.stackTraces = false) (D : va_G) (I : FieldType → ClassId) (pl2297 : Int64)  : Ct (gV D I) l yJ13_bitCount_95d88 cJ13_bitCount_95d88 2 (some FieldType.int) 0 0 0 0 [.long pl2297] [] (po_2298_Long_bitCount I pl2297) gN := by
  refine Ct_ofF hl0 (by decide +kernel) (Nat.le_of_ble_eq_true rfl) ?_
  refine G_lload_n 0 d_cJ13_bitCount_95d88_0 rfl ?_
  refine G_lload_n 0 d_cJ13_bitCount_95d88_1 rfl ?_
  refine G_iconst 1 d_cJ13_bitCount_95d88_2 (by decide +kernel) ?_
  refine G_lushr d_cJ13_bitCount_95d88_3 (G_namL fun u2299 hu2299 => ?_)
  refine G_ldc2 6148914691236517205 d_cJ13_bitCount_95d88_4 w_4_96 ?_
  refine G_land d_cJ13_bitCount_95d88_7 (G_namL fun u2300 hu2300 => ?_)
  refine G_lsub d_cJ13_bitCount_95d88_8 (G_namL fun u2301 hu2301 => ?_)
  refine G_lstore_n (L' := [(0, .long u2301)]) d_cJ13_bitCount_95d88_9 (Nat.le_of_ble_eq_true rfl) rfl ?_
  refine G_lload_n 0 d_cJ13_bitCount_95d88_10 rfl ?_
  refine G_ldc2 3689348814741910323 d_cJ13_bitCount_95d88_11 w_4_97 ?_
  refine G_land d_cJ13_bitCount_95d88_14 (G_namL fun u2302 hu2302 => ?_)
  refine G_lload_n 0 d_cJ13_bitCount_95d88_15 rfl ?_
  refine G_iconst 2 d_cJ13_bitCount_95d88_16 (by decide +kernel) ?_
  refine G_lushr d_cJ13_bitCount_95d88_17 (G_namL fun u2303 hu2303 => ?_)
  refine G_ldc2 3689348814741910323 d_cJ13_bitCount_95d88_18 w_4_97 ?_
  refine G_land d_cJ13_bitCount_95d88_21 (G_namL fun u2304 hu2304 => ?_)
  refine G_ladd d_cJ13_bitCount_95d88_22 (G_namL fun u2305 hu2305 => ?_)
  refine G_lstore_n (L' := [(0, .long u2305)]) d_cJ13_bitCount_95d88_23 (Nat.le_of_ble_eq_true rfl) rfl ?_
  refine G_lload_n 0 d_cJ13_bitCount_95d88_24 rfl ?_
  refine G_lload_n 0 d_cJ13_bitCount_95d88_25 rfl ?_
  refine G_iconst 4 d_cJ13_bitCount_95d88_26 (by decide +kernel) ?_
  refine G_lushr d_cJ13_bitCount_95d88_27 (G_namL fun u2306 hu2306 => ?_)
  refine G_ladd d_cJ13_bitCount_95d88_28 (G_namL fun u2307 hu2307 => ?_)
  refine G_ldc2 1085102592571150095 d_cJ13_bitCount_95d88_29 w_4_98 ?_
  refine G_land d_cJ13_bitCount_95d88_32 (G_namL fun u2308 hu2308 => ?_)
  refine G_lstore_n (L' := [(0, .long u2308)]) d_cJ13_bitCount_95d88_33 (Nat.le_of_ble_eq_true rfl) rfl ?_
  refine G_lload_n 0 d_cJ13_bitCount_95d88_34 rfl ?_
  refine G_lload_n 0 d_cJ13_bitCount_95d88_35 rfl ?_
  refine G_bipush 8 d_cJ13_bitCount_95d88_36 (by decide +kernel) ?_
  refine G_lushr d_cJ13_bitCount_95d88_38 (G_namL fun u2309 hu2309 => ?_)
  refine G_ladd d_cJ13_bitCount_95d88_39 (G_namL fun u2310 hu2310 => ?_)
  refine G_lstore_n (L' := [(0, .long u2310)]) d_cJ13_bitCount_95d88_40 (Nat.le_of_ble_eq_true rfl) rfl ?_
  refine G_lload_n 0 d_cJ13_bitCount_95d88_41 rfl ?_
  refine G_lload_n 0 d_cJ13_bitCount_95d88_42 rfl ?_
  refine G_bipush 16 d_cJ13_bitCount_95d88_43 (by decide +kernel) ?_
  refine G_lushr d_cJ13_bitCount_95d88_45 (G_namL fun u2311 hu2311 => ?_)
  refine G_ladd d_cJ13_bitCount_95d88_46 (G_namL fun u2312 hu2312 => ?_)
  refine G_lstore_n (L' := [(0, .long u2312)]) d_cJ13_bitCount_95d88_47 (Nat.le_of_ble_eq_true rfl) rfl ?_
  refine G_lload_n 0 d_cJ13_bitCount_95d88_48 rfl ?_
  refine G_lload_n 0 d_cJ13_bitCount_95d88_49 rfl ?_
  refine G_bipush 32 d_cJ13_bitCount_95d88_50 (by decide +kernel) ?_
  refine G_lushr d_cJ13_bitCount_95d88_52 (G_namL fun u2313 hu2313 => ?_)
  refine G_ladd d_cJ13_bitCount_95d88_53 (G_namL fun u2314 hu2314 => ?_)
  refine G_lstore_n (L' := [(0, .long u2314)]) d_cJ13_bitCount_95d88_54 (Nat.le_of_ble_eq_true rfl) rfl ?_
  refine G_lload_n 0 d_cJ13_bitCount_95d88_55 rfl ?_
  refine G_l2i d_cJ13_bitCount_95d88_56 (G_nam fun z2315 hz2315 => ?_)
  have bz2315 : gB z2315 (-2147483648) 2147483647 := gB_any z2315
  refine G_bipush 127 d_cJ13_bitCount_95d88_57 (by decide +kernel) ?_
  refine G_iand d_cJ13_bitCount_95d88_59 (G_nam fun z2316 hz2316 => ?_)
  have bz2316 : gB z2316 0 127 := gB_and hz2316 (gBl (show Int32.toInt 127 = 127 by decide)) (by decide)
  exact G_iret d_cJ13_bitCount_95d88_60 rfl (Nat.le_of_ble_eq_true rfl) (Nat.le_of_ble_eq_true rfl) ⟨z2316, rfl, rfl, bz2316, (by subst_vars; rfl)⟩
abbrev ky_2293_SpillForge_lowestBit : gKey := (cX11_lowestBit, 2, yX11_lowestBit.cls, (some FieldType.int), [], yX11_lowestBit.name, fun _ _ => True)
abbrev po_2293_SpillForge_lowestBit (I : FieldType → ClassId) (pl2292 : Int64) : Option Value → va_W → Prop := fun r w => ∃ (o2320 : Int32), r = some (.int o2320) ∧ w = [] ∧ gB o2320 0 127 ∧ o2320 = lb_bc ((pl2292 &&& (-pl2292)) - 1)
set_option maxRecDepth 100000 in
set_option maxHeartbeats 4000000 in
theorem ct_2293_SpillForge_lowestBit (l : Launch) (hl0 : l.stackTraces = false) (D : va_G) (I : FieldType → ClassId) (pl2292 : Int64)  : Ct (gV D I) l yX11_lowestBit cX11_lowestBit 2 (some FieldType.int) 1 21 0 0 [.long pl2292] [] (po_2293_SpillForge_lowestBit I pl2292) gN := by
  refine Ct_of hl0 (by decide) (Nat.le_of_ble_eq_true rfl) ?_
  refine G_lload_n 0 d_cX11_lowestBit_0 rfl ?_
  refine G_lload_n 0 d_cX11_lowestBit_1 rfl ?_
  refine G_lneg d_cX11_lowestBit_2 (G_namL fun u2294 hu2294 => ?_)
  refine G_land d_cX11_lowestBit_3 (G_namL fun u2295 hu2295 => ?_)
  refine G_lconst 1 d_cX11_lowestBit_4 rfl ?_
  refine G_lsub d_cX11_lowestBit_5 (G_namL fun u2296 hu2296 => ?_)
  refine G_callS (As := [.long u2296]) (wr := []) (gV_ok D I) (ct_2298_Long_bitCount l hl0 D I u2296 ) d_cX11_lowestBit_6 ⟨w_4_128, w_1_31, w_4_95, by decide, rfl, (Nat.le_of_ble_eq_true rfl), (Nat.le_of_ble_eq_true rfl)⟩ w_4_94 [] [] rfl rfl rfl rfl (by decide) (Nat.le_of_ble_eq_true rfl) (Nat.le_of_ble_eq_true rfl) (Nat.le_of_ble_eq_true rfl) (fun r w hp => ?_) (fun _ _ _ z => z.elim)
  obtain ⟨o2318, rfl, rfl, bo2318, x2319⟩ := hp
  change G _ _ _ _ _ _ _ (.int o2318 :: _) _ _ _
  refine G_ws (ws' := []) (cs' := 0) (sl' := 0) rfl rfl rfl ?_
  exact G_iret d_cX11_lowestBit_9 rfl (Nat.le_of_ble_eq_true rfl) (Nat.le_of_ble_eq_true rfl) ⟨o2318, rfl, rfl, bo2318, (by subst_vars; rfl)⟩
abbrev ky_2280_Colouring_leave : gKey := (cX1_leave, 6, yX1_leave.cls, none, [], yX1_leave.name, fun _ _ => True)
abbrev po_2280_Colouring_leave (I : FieldType → ClassId) (q2241 : Nat) (q2242 : Nat) (q2243 : Nat) (q2244 : Nat) (q2245 : Nat) (q2246 : Nat) (q2247 : Nat) (q2248 : Nat) (q2249 : Nat) (q2250 : Nat) (q2251 : Nat) (q2252 : Nat) (q2253 : Nat) (q2254 : Nat) (q2255 : Nat) (p2256 : Int32) (p2257 : Int32) (p2258 : Int32) (p2259 : Int32) (p2260 : Int32) (f2261 : Nat → Int32) (f2262 : Nat → Int32) (f2263 : Nat → Int32) (f2264 : Nat → Int32) (f2265 : Nat → Int32) (p2266 : Int32) (p2267 : Int32) (p2268 : Int32) (f2269 : Nat → Int64) (f2270 : Nat → Int64) (f2271 : Nat → Int32) (f2272 : Nat → Int64) (f2273 : Nat → Int64) (f2274 : Nat → Int64) (f2275 : Nat → Int64) : Option Value → va_W → Prop := fun r w => ∃ (f3299 : Nat → Int32), r = none ∧ w = [(q2241, .inr (6, [.ref q2242, .ref q2243, .ref q2244, .ref q2245, .ref q2246, .ref q2247, .int p2257, .int p2258])), (q2242, .inr (8, [.ref q2248, .ref q2249, .ref q2250, .ref q2251, .int p2259, .int p2260])), (q2243, .inl (I .int, 720, .inl f2261)), (q2244, .inl (I .int, 720, .inl f3299)), (q2245, .inl (I .int, 720, .inl f2263)), (q2246, .inl (I .int, 720, .inl f2264)), (q2247, .inl (I .int, 720, .inl f2265)), (q2248, .inr (10, [.ref q2252, .ref q2253, .ref q2254, .ref q2255, .int p2266, .int p2267, .int p2268])), (q2249, .inl (I .long, 8640, .inr (.inl f2269))), (q2250, .inl (I .long, 12, .inr (.inl f2270))), (q2251, .inl (I .int, 720, .inl f2271)), (q2252, .inl (I .long, 480, .inr (.inl f2272))), (q2253, .inl (I .long, 480, .inr (.inl f2273))), (q2254, .inl (I .long, 480, .inr (.inl f2274))), (q2255, .inl (I .long, 12, .inr (.inl f2275)))] ∧ gF f3299 (-2147483648) 2147483647
set_option maxRecDepth 100000 in
set_option maxHeartbeats 4000000 in
theorem ct_2280_Colouring_leave (l : Launch) (hl0 : l.stackTraces = false) (D : va_G) (I : FieldType → ClassId) (q2241 : Nat) (q2242 : Nat) (q2243 : Nat) (q2244 : Nat) (q2245 : Nat) (q2246 : Nat) (q2247 : Nat) (q2248 : Nat) (q2249 : Nat) (q2250 : Nat) (q2251 : Nat) (q2252 : Nat) (q2253 : Nat) (q2254 : Nat) (q2255 : Nat) (p2256 : Int32) (p2257 : Int32) (p2258 : Int32) (p2259 : Int32) (p2260 : Int32) (f2261 : Nat → Int32) (f2262 : Nat → Int32) (f2263 : Nat → Int32) (f2264 : Nat → Int32) (f2265 : Nat → Int32) (p2266 : Int32) (p2267 : Int32) (p2268 : Int32) (f2269 : Nat → Int64) (f2270 : Nat → Int64) (f2271 : Nat → Int32) (f2272 : Nat → Int64) (f2273 : Nat → Int64) (f2274 : Nat → Int64) (f2275 : Nat → Int64) (bp2256 : gB p2256 0 719) (bp2257 : gB p2257 0 720) (bp2258 : gB p2258 0 720) (bp2259 : gB p2259 0 720) (bp2260 : gB p2260 0 12) (bf2263 : gF f2263 0 719) (bf2264 : gF f2264 0 719) (bp2266 : gB p2266 0 720) (bp2267 : gB p2267 0 12) (bp2268 : gB p2268 0 1) (x2276 : p2256.toInt < p2259.toInt) (x2277 : p2260.toInt = (p2259.toInt + 63) / 64) (x2278 : lb_W f2269 (p2259.toInt * p2260.toInt) (p2260.toInt) (p2259.toInt)) (x2279 : p2267.toInt = (p2266.toInt + 63) / 64) : Ct (gV D I) l yX1_leave cX1_leave 6 none 2 42 0 0 [.ref q2241, .int p2256] [(q2241, .inr (6, [.ref q2242, .ref q2243, .ref q2244, .ref q2245, .ref q2246, .ref q2247, .int p2257, .int p2258])), (q2242, .inr (8, [.ref q2248, .ref q2249, .ref q2250, .ref q2251, .int p2259, .int p2260])), (q2243, .inl (I .int, 720, .inl f2261)), (q2244, .inl (I .int, 720, .inl f2262)), (q2245, .inl (I .int, 720, .inl f2263)), (q2246, .inl (I .int, 720, .inl f2264)), (q2247, .inl (I .int, 720, .inl f2265)), (q2248, .inr (10, [.ref q2252, .ref q2253, .ref q2254, .ref q2255, .int p2266, .int p2267, .int p2268])), (q2249, .inl (I .long, 8640, .inr (.inl f2269))), (q2250, .inl (I .long, 12, .inr (.inl f2270))), (q2251, .inl (I .int, 720, .inl f2271)), (q2252, .inl (I .long, 480, .inr (.inl f2272))), (q2253, .inl (I .long, 480, .inr (.inl f2273))), (q2254, .inl (I .long, 480, .inr (.inl f2274))), (q2255, .inl (I .long, 12, .inr (.inl f2275)))] (po_2280_Colouring_leave I q2241 q2242 q2243 q2244 q2245 q2246 q2247 q2248 q2249 q2250 q2251 q2252 q2253 q2254 q2255 p2256 p2257 p2258 p2259 p2260 f2261 f2262 f2263 f2264 f2265 p2266 p2267 p2268 f2269 f2270 f2271 f2272 f2273 f2274 f2275) gN := by
  refine Ct_of hl0 (by decide) (Nat.le_of_ble_eq_true rfl) ?_
  refine G_iconst 0 d_cX1_leave_0 (by decide +kernel) ?_
  refine G_istore_n (L' := [(2, .int 0), (0, .ref q2241), (1, .int p2256)]) d_cX1_leave_1 (Nat.le_of_ble_eq_true rfl) rfl ?_
  have hlp2_3157 : ∀ (n2_3157 : Nat) (g3156 : Int32) (f3157 : Nat → Int32), gB g3156 0 12 → gF f3157 (-2147483648) 2147483647 → ((13 : Int) - g3156.toInt).toNat < n2_3157 → G (gV D I) l (gRm 2 42 0 0) (gM (gV D I) (po_2280_Colouring_leave I q2241 q2242 q2243 q2244 q2245 q2246 q2247 q2248 q2249 q2250 q2251 q2252 q2253 q2254 q2255 p2256 p2257 p2258 p2259 p2260 f2261 f2262 f2263 f2264 f2265 p2266 p2267 p2268 f2269 f2270 f2271 f2272 f2273 f2274 f2275) gN 0 0) ky_2280_Colouring_leave 2 [(2, .int g3156), (0, .ref q2241), (1, .int p2256)] [] [(q2241, .inr (6, [.ref q2242, .ref q2243, .ref q2244, .ref q2245, .ref q2246, .ref q2247, .int p2257, .int p2258])), (q2242, .inr (8, [.ref q2248, .ref q2249, .ref q2250, .ref q2251, .int p2259, .int p2260])), (q2243, .inl (I .int, 720, .inl f2261)), (q2244, .inl (I .int, 720, .inl f3157)), (q2245, .inl (I .int, 720, .inl f2263)), (q2246, .inl (I .int, 720, .inl f2264)), (q2247, .inl (I .int, 720, .inl f2265)), (q2248, .inr (10, [.ref q2252, .ref q2253, .ref q2254, .ref q2255, .int p2266, .int p2267, .int p2268])), (q2249, .inl (I .long, 8640, .inr (.inl f2269))), (q2250, .inl (I .long, 12, .inr (.inl f2270))), (q2251, .inl (I .int, 720, .inl f2271)), (q2252, .inl (I .long, 480, .inr (.inl f2272))), (q2253, .inl (I .long, 480, .inr (.inl f2273))), (q2254, .inl (I .long, 480, .inr (.inl f2274))), (q2255, .inl (I .long, 12, .inr (.inl f2275)))] 0 0 := by
    intro n2_3157
    induction n2_3157 with
    | zero => intro g3156 f3157 bg3156 bf3157 hm2_3157; exact absurd hm2_3157 (Nat.not_lt_zero _)
    | succ n2_3157 ih2_3157 =>
      intro g3156 f3157 bg3156 bf3157 hm2_3157
      refine G_iload_n 0 d_cX1_leave_2 rfl ?_
      refine G_aload_n 1 d_cX1_leave_3 rfl ?_
      refine G_getf 0 0 d_cX1_leave_4 rfl (gk_X1 D I) (Nat.le_of_ble_eq_true rfl) w_2_78 rfl ?_
      refine G_getfN 1 5 d_cX1_leave_7 rfl (gk_X3 D I) (Nat.le_of_ble_eq_true rfl) (fun _ _ _ h => gn_w 60 rfl h) rfl ?_
      refine G_icmp_ge 85 d_cX1_leave_10 (by decide +kernel) (fun hc3158 => ?_) (fun hc3158 => ?_)
      · have r3159 : p2260.toInt ≤ g3156.toInt := gC_le hc3158
        exact G_vret d_cX1_leave_85 rfl (Nat.le_of_ble_eq_true rfl) (Nat.le_of_ble_eq_true rfl) ⟨f3157, rfl, rfl, bf3157⟩
      · have r3160 : g3156.toInt < p2260.toInt := gC_nle hc3158
        have bg3156' : gB g3156 0 11 := ⟨by omega, by omega⟩
        have bp2260' : gB p2260 1 12 := ⟨by omega, by omega⟩
        refine G_aload_n 1 d_cX1_leave_13 rfl ?_
        refine G_getf 0 0 d_cX1_leave_14 rfl (gk_X1 D I) (Nat.le_of_ble_eq_true rfl) w_2_78 rfl ?_
        refine G_getfN 1 1 d_cX1_leave_17 rfl (gk_X3 D I) (Nat.le_of_ble_eq_true rfl) (fun _ _ _ h => gn_w 56 rfl h) rfl ?_
        refine G_iload_n 2 d_cX1_leave_20 rfl ?_
        refine G_aload_n 1 d_cX1_leave_21 rfl ?_
        refine G_getf 0 0 d_cX1_leave_22 rfl (gk_X1 D I) (Nat.le_of_ble_eq_true rfl) w_2_78 rfl ?_
        refine G_getfN 1 5 d_cX1_leave_25 rfl (gk_X3 D I) (Nat.le_of_ble_eq_true rfl) (fun _ _ _ h => gn_w 60 rfl h) rfl ?_
        refine G_imul d_cX1_leave_28 (G_nam fun z3161 hz3161 => ?_)
        have ez3161 : z3161.toInt = p2256.toInt * p2260.toInt := by rw [gI_mul hz3161 bp2256 bp2260' (by decide) (by decide) (by decide)]
        have bz3161 : gB z3161 0 8628 := gB_mul hz3161 bp2256 bp2260' (by decide) (by decide) (by decide) (by decide)
        refine G_iload_n 0 d_cX1_leave_29 rfl ?_
        refine G_iadd d_cX1_leave_30 (G_nam fun z3162 hz3162 => ?_)
        have ez3162 : z3162.toInt = z3161.toInt + g3156.toInt := by rw [gI_add hz3162 bz3161 bg3156' (by decide) (by decide)]
        have bz3162 : gB z3162 0 8639 := gB_add (gI_add hz3162 bz3161 bg3156' (by decide) (by decide)) bz3161 bg3156' (by decide) (by decide)
        refine G_lald 8 2 d_cX1_leave_31 rfl rfl (gB_in bz3162 (by decide) (by decide)) (G_namL fun u3163 hu3163 => ?_)
        have qu3163 : lb_Q u3163 (p2259.toInt - 64 * g3156.toInt) := lb_Wld hu3163 x2278 (by omega) (lb_Lt1 ez3162 ez3161 (by omega) (by omega) (by omega)) (lb_Mod1 ez3162 ez3161 (by omega) (by omega))
        refine G_lstore_n (L' := [(3, .long u3163), (2, .int g3156), (0, .ref q2241), (1, .int p2256)]) d_cX1_leave_32 (Nat.le_of_ble_eq_true rfl) rfl ?_
        refine G_iconst 0 d_cX1_leave_33 (by decide +kernel) ?_
        refine G_istore (L' := [(5, .int 0), (3, .long u3163), (2, .int g3156), (0, .ref q2241), (1, .int p2256)]) d_cX1_leave_34 (Nat.le_of_ble_eq_true rfl) rfl ?_
        have hlp36_3279 : ∀ (n36_3279 : Nat) (g3276 : Int32) (gl3277 : Int64) (f3278 : Nat → Int32), gB g3276 0 64 → gF f3278 (-2147483648) 2147483647 → lb_Q gl3277 (p2259.toInt - 64 * g3156.toInt) → ((65 : Int) - g3276.toInt).toNat < n36_3279 → G (gV D I) l (gRm 2 42 0 0) (gM (gV D I) (po_2280_Colouring_leave I q2241 q2242 q2243 q2244 q2245 q2246 q2247 q2248 q2249 q2250 q2251 q2252 q2253 q2254 q2255 p2256 p2257 p2258 p2259 p2260 f2261 f2262 f2263 f2264 f2265 p2266 p2267 p2268 f2269 f2270 f2271 f2272 f2273 f2274 f2275) gN 0 0) ky_2280_Colouring_leave 36 [(5, .int g3276), (3, .long gl3277), (2, .int g3156), (0, .ref q2241), (1, .int p2256)] [] [(q2241, .inr (6, [.ref q2242, .ref q2243, .ref q2244, .ref q2245, .ref q2246, .ref q2247, .int p2257, .int p2258])), (q2242, .inr (8, [.ref q2248, .ref q2249, .ref q2250, .ref q2251, .int p2259, .int p2260])), (q2243, .inl (I .int, 720, .inl f2261)), (q2244, .inl (I .int, 720, .inl f3278)), (q2245, .inl (I .int, 720, .inl f2263)), (q2246, .inl (I .int, 720, .inl f2264)), (q2247, .inl (I .int, 720, .inl f2265)), (q2248, .inr (10, [.ref q2252, .ref q2253, .ref q2254, .ref q2255, .int p2266, .int p2267, .int p2268])), (q2249, .inl (I .long, 8640, .inr (.inl f2269))), (q2250, .inl (I .long, 12, .inr (.inl f2270))), (q2251, .inl (I .int, 720, .inl f2271)), (q2252, .inl (I .long, 480, .inr (.inl f2272))), (q2253, .inl (I .long, 480, .inr (.inl f2273))), (q2254, .inl (I .long, 480, .inr (.inl f2274))), (q2255, .inl (I .long, 12, .inr (.inl f2275)))] 0 0 := by
          intro n36_3279
          induction n36_3279 with
          | zero => intro g3276 gl3277 f3278 bg3276 bf3278 x3279 hm36_3279; exact absurd hm36_3279 (Nat.not_lt_zero _)
          | succ n36_3279 ih36_3279 =>
            intro g3276 gl3277 f3278 bg3276 bf3278 x3279 hm36_3279
            refine G_iload 0 d_cX1_leave_36 rfl ?_
            refine G_bipush 64 d_cX1_leave_38 (by decide +kernel) ?_
            refine G_icmp_ge 79 d_cX1_leave_40 (by decide +kernel) (fun hc3280 => ?_) (fun hc3280 => ?_)
            · have r3281 : 64 ≤ g3276.toInt := gj_leL hc3280 (show Int32.toInt 64 = 64 by decide)
              have bg3276' : gB g3276 64 64 := ⟨by omega, by omega⟩
              obtain ⟨z3282, hz3282⟩ : ∃ z : Int32, z = g3156 + Int32.ofInt 1 := ⟨_, rfl⟩
              have ez3282 : z3282.toInt = g3156.toInt + 1 := gI_inc hz3282 (by decide) bg3156' (by decide) (by decide)
              have bz3282 : gB z3282 1 12 := ⟨by omega, by omega⟩
              refine G_iinc (L' := [(2, .int z3282), (5, .int g3276), (3, .long gl3277), (0, .ref q2241), (1, .int p2256)]) z3282 2 d_cX1_leave_79 rfl hz3282.symm (Nat.le_of_ble_eq_true rfl) rfl ?_
              refine G_goto 2 d_cX1_leave_82 (by decide +kernel) ?_
              refine G_lv (L' := [(2, .int z3282), (0, .ref q2241), (1, .int p2256)]) [0, 3, 4] rfl ?_
              exact ih2_3157 z3282 f3278 (gB_w bz3282 (by decide) (by decide)) bf3278 (by omega)
            · have r3283 : g3276.toInt < 64 := gj_nleL hc3280 (show Int32.toInt 64 = 64 by decide)
              have bg3276' : gB g3276 0 63 := ⟨by omega, by omega⟩
              refine G_lload_n 1 d_cX1_leave_43 rfl ?_
              refine G_lconst 0 d_cX1_leave_44 rfl ?_
              refine G_lcmp d_cX1_leave_45 (G_nam fun z3284 hz3284 => ?_)
              have bz3284 : gB z3284 (-1) 1 := gB_cmp hz3284
              refine G_if_eq 79 d_cX1_leave_46 (by decide +kernel) (fun hc3285 => ?_) (fun hc3285 => ?_)
              · have r3286 : z3284.toInt = 0 := gj_eq hc3285 (show Int32.toInt 0 = 0 by decide)
                have bz3284' : gB z3284 0 0 := ⟨by omega, by omega⟩
                have lhc3285 := gC_cmpE hz3284 hc3285
                obtain ⟨z3287, hz3287⟩ : ∃ z : Int32, z = g3156 + Int32.ofInt 1 := ⟨_, rfl⟩
                have ez3287 : z3287.toInt = g3156.toInt + 1 := gI_inc hz3287 (by decide) bg3156' (by decide) (by decide)
                have bz3287 : gB z3287 1 12 := ⟨by omega, by omega⟩
                refine G_iinc (L' := [(2, .int z3287), (5, .int g3276), (3, .long gl3277), (0, .ref q2241), (1, .int p2256)]) z3287 2 d_cX1_leave_79 rfl hz3287.symm (Nat.le_of_ble_eq_true rfl) rfl ?_
                refine G_goto 2 d_cX1_leave_82 (by decide +kernel) ?_
                refine G_lv (L' := [(2, .int z3287), (0, .ref q2241), (1, .int p2256)]) [0, 3, 4] rfl ?_
                exact ih2_3157 z3287 f3278 (gB_w bz3287 (by decide) (by decide)) bf3278 (by omega)
              · have r3288 : z3284.toInt ≠ 0 := gj_neq hc3285 (show Int32.toInt 0 = 0 by decide)
                have lhc3285 := gC_cmpN hz3284 hc3285
                refine G_aload_n 3 d_cX1_leave_49 rfl ?_
                refine G_getf 0 2 d_cX1_leave_50 rfl (gk_X1 D I) (Nat.le_of_ble_eq_true rfl) w_2_80 rfl ?_
                refine G_iload_n 2 d_cX1_leave_53 rfl ?_
                refine G_bipush 6 d_cX1_leave_54 (by decide +kernel) ?_
                refine G_ishl d_cX1_leave_56 (G_nam fun z3289 hz3289 => ?_)
                have ez3289 : z3289.toInt = g3156.toInt * 64 := gI_shl (k := 6) hz3289 (by decide) bg3156' (by decide) (by decide)
                have bz3289 : gB z3289 0 704 := ⟨by omega, by omega⟩
                refine G_lload_n 1 d_cX1_leave_57 rfl ?_
                refine G_callSN (As := [.long gl3277]) (wr := [(q2241, .inr (6, [.ref q2242, .ref q2243, .ref q2244, .ref q2245, .ref q2246, .ref q2247, .int p2257, .int p2258])), (q2242, .inr (8, [.ref q2248, .ref q2249, .ref q2250, .ref q2251, .int p2259, .int p2260])), (q2243, .inl (I .int, 720, .inl f2261)), (q2244, .inl (I .int, 720, .inl f3278)), (q2245, .inl (I .int, 720, .inl f2263)), (q2246, .inl (I .int, 720, .inl f2264)), (q2247, .inl (I .int, 720, .inl f2265)), (q2248, .inr (10, [.ref q2252, .ref q2253, .ref q2254, .ref q2255, .int p2266, .int p2267, .int p2268])), (q2249, .inl (I .long, 8640, .inr (.inl f2269))), (q2250, .inl (I .long, 12, .inr (.inl f2270))), (q2251, .inl (I .int, 720, .inl f2271)), (q2252, .inl (I .long, 480, .inr (.inl f2272))), (q2253, .inl (I .long, 480, .inr (.inl f2273))), (q2254, .inl (I .long, 480, .inr (.inl f2274))), (q2255, .inl (I .long, 12, .inr (.inl f2275)))]) (gV_ok D I) (ct_2293_SpillForge_lowestBit l hl0 D I gl3277 ) d_cX1_leave_58 ⟨(fun _ _ _ h => gn_w 73 rfl h), w_1_1, w_4_127, by decide, rfl, (Nat.le_of_ble_eq_true rfl), (Nat.le_of_ble_eq_true rfl)⟩ w_4_126 [] [0, 1, 2, 3, 4, 5, 6, 7, 8, 9, 10, 11, 12, 13, 14] rfl rfl rfl rfl (by decide) (Nat.le_of_ble_eq_true rfl) (Nat.le_of_ble_eq_true rfl) (Nat.le_of_ble_eq_true rfl) (fun r w hp => ?_)
                obtain ⟨o3290, rfl, rfl, bo3290, x3291⟩ := hp
                have lwo3290 := lb_lowE lhc3285 x3291
                have bo3290' : gB o3290 0 63 := ⟨by omega, by omega⟩
                have lqo3290 : o3290.toInt < p2259.toInt - 64 * g3156.toInt := lb_lowQ lwo3290 x3279
                change G _ _ _ _ _ _ _ (.int o3290 :: _) _ _ _
                refine G_ws (ws' := [(q2241, .inr (6, [.ref q2242, .ref q2243, .ref q2244, .ref q2245, .ref q2246, .ref q2247, .int p2257, .int p2258])), (q2242, .inr (8, [.ref q2248, .ref q2249, .ref q2250, .ref q2251, .int p2259, .int p2260])), (q2243, .inl (I .int, 720, .inl f2261)), (q2244, .inl (I .int, 720, .inl f3278)), (q2245, .inl (I .int, 720, .inl f2263)), (q2246, .inl (I .int, 720, .inl f2264)), (q2247, .inl (I .int, 720, .inl f2265)), (q2248, .inr (10, [.ref q2252, .ref q2253, .ref q2254, .ref q2255, .int p2266, .int p2267, .int p2268])), (q2249, .inl (I .long, 8640, .inr (.inl f2269))), (q2250, .inl (I .long, 12, .inr (.inl f2270))), (q2251, .inl (I .int, 720, .inl f2271)), (q2252, .inl (I .long, 480, .inr (.inl f2272))), (q2253, .inl (I .long, 480, .inr (.inl f2273))), (q2254, .inl (I .long, 480, .inr (.inl f2274))), (q2255, .inl (I .long, 12, .inr (.inl f2275)))]) (cs' := 0) (sl' := 0) rfl rfl rfl ?_
                refine G_ior d_cX1_leave_61 (G_nam fun z3292 hz3292 => ?_)
                have ez3292 : z3292.toInt = z3289.toInt + o3290.toInt := gI_or (k := 6) (m := (g3156.toInt).toNat) hz3292 (by omega) (bo3290') (by decide) (by omega)
                have bz3292 : gB z3292 0 767 := ⟨by omega, by omega⟩
                refine G_dup2_11 d_cX1_leave_62 rfl rfl ?_
                refine G_iald 3 0 d_cX1_leave_63 rfl rfl (gB_inr (by omega) (by omega)) (G_nam fun z3293 hz3293 => ?_)
                have bz3293 : gB z3293 (-2147483648) 2147483647 := by rw [hz3293]; exact bf3278 _
                refine G_iconst 1 d_cX1_leave_64 (by decide +kernel) ?_
                refine G_isub d_cX1_leave_65 (G_nam fun z3294 hz3294 => ?_)
                have bz3294 : gB z3294 (-2147483648) 2147483647 := gB_any z3294
                refine G_iastN 3 0 d_cX1_leave_66 rfl rfl (gB_inr (by omega) (by omega)) (fun f3295 hf3295 => ?_)
                refine G_ws (ws' := [(q2241, .inr (6, [.ref q2242, .ref q2243, .ref q2244, .ref q2245, .ref q2246, .ref q2247, .int p2257, .int p2258])), (q2242, .inr (8, [.ref q2248, .ref q2249, .ref q2250, .ref q2251, .int p2259, .int p2260])), (q2243, .inl (I .int, 720, .inl f2261)), (q2244, .inl (I .int, 720, .inl f3295)), (q2245, .inl (I .int, 720, .inl f2263)), (q2246, .inl (I .int, 720, .inl f2264)), (q2247, .inl (I .int, 720, .inl f2265)), (q2248, .inr (10, [.ref q2252, .ref q2253, .ref q2254, .ref q2255, .int p2266, .int p2267, .int p2268])), (q2249, .inl (I .long, 8640, .inr (.inl f2269))), (q2250, .inl (I .long, 12, .inr (.inl f2270))), (q2251, .inl (I .int, 720, .inl f2271)), (q2252, .inl (I .long, 480, .inr (.inl f2272))), (q2253, .inl (I .long, 480, .inr (.inl f2273))), (q2254, .inl (I .long, 480, .inr (.inl f2274))), (q2255, .inl (I .long, 12, .inr (.inl f2275)))]) (cs' := 0) (sl' := 0) rfl rfl rfl ?_
                refine G_lload_n 1 d_cX1_leave_67 rfl ?_
                refine G_lload_n 1 d_cX1_leave_68 rfl ?_
                refine G_lconst 1 d_cX1_leave_69 rfl ?_
                refine G_lsub d_cX1_leave_70 (G_namL fun u3296 hu3296 => ?_)
                refine G_land d_cX1_leave_71 (G_namL fun u3297 hu3297 => ?_)
                have qu3297 : lb_Q u3297 (p2259.toInt - 64 * g3156.toInt) := lb_QandL hu3297 x3279
                refine G_lstore_n (L' := [(3, .long u3297), (5, .int g3276), (2, .int g3156), (0, .ref q2241), (1, .int p2256)]) d_cX1_leave_72 (Nat.le_of_ble_eq_true rfl) rfl ?_
                obtain ⟨z3298, hz3298⟩ : ∃ z : Int32, z = g3276 + Int32.ofInt 1 := ⟨_, rfl⟩
                have ez3298 : z3298.toInt = g3276.toInt + 1 := gI_inc hz3298 (by decide) bg3276' (by decide) (by decide)
                have bz3298 : gB z3298 1 64 := ⟨by omega, by omega⟩
                refine G_iinc (L' := [(5, .int z3298), (3, .long u3297), (2, .int g3156), (0, .ref q2241), (1, .int p2256)]) z3298 1 d_cX1_leave_73 rfl hz3298.symm (Nat.le_of_ble_eq_true rfl) rfl ?_
                refine G_goto 36 d_cX1_leave_76 (by decide +kernel) ?_
                exact ih36_3279 z3298 u3297 f3295 (gB_w bz3298 (by decide) (by decide)) (gF_any f3295) qu3297 (by omega)
        exact hlp36_3279 (((65 : Int) - 0).toNat + 1) 0 u3163 f3157 (gB_w (gBl (show Int32.toInt 0 = 0 by decide)) (by decide) (by decide)) bf3157 qu3163 (Nat.lt_succ_self _)
  exact hlp2_3157 (((13 : Int) - 0).toNat + 1) 0 f2262 (gB_w (gBl (show Int32.toInt 0 = 0 by decide)) (by decide) (by decide)) (gF_any f2262) (Nat.lt_succ_self _)
abbrev ky_3339_Colouring_coloursAround : gKey := (cX1_coloursAround, 9, yX1_coloursAround.cls, (some FieldType.long), [], yX1_coloursAround.name, fun _ _ => True)
abbrev po_3339_Colouring_coloursAround (I : FieldType → ClassId) (q3300 : Nat) (q3301 : Nat) (q3302 : Nat) (q3303 : Nat) (q3304 : Nat) (q3305 : Nat) (q3306 : Nat) (q3307 : Nat) (q3308 : Nat) (q3309 : Nat) (q3310 : Nat) (q3311 : Nat) (q3312 : Nat) (q3313 : Nat) (q3314 : Nat) (p3315 : Int32) (p3316 : Int32) (p3317 : Int32) (p3318 : Int32) (p3319 : Int32) (f3320 : Nat → Int32) (f3321 : Nat → Int32) (f3322 : Nat → Int32) (f3323 : Nat → Int32) (f3324 : Nat → Int32) (p3325 : Int32) (p3326 : Int32) (p3327 : Int32) (f3328 : Nat → Int64) (f3329 : Nat → Int64) (f3330 : Nat → Int32) (f3331 : Nat → Int64) (f3332 : Nat → Int64) (f3333 : Nat → Int64) (f3334 : Nat → Int64) : Option Value → va_W → Prop := fun r w => ∃ (ol4567 : Int64), r = some (.long ol4567) ∧ w = [(q3300, .inr (6, [.ref q3301, .ref q3302, .ref q3303, .ref q3304, .ref q3305, .ref q3306, .int p3316, .int p3317])), (q3301, .inr (8, [.ref q3307, .ref q3308, .ref q3309, .ref q3310, .int p3318, .int p3319])), (q3302, .inl (I .int, 720, .inl f3320)), (q3303, .inl (I .int, 720, .inl f3321)), (q3304, .inl (I .int, 720, .inl f3322)), (q3305, .inl (I .int, 720, .inl f3323)), (q3306, .inl (I .int, 720, .inl f3324)), (q3307, .inr (10, [.ref q3311, .ref q3312, .ref q3313, .ref q3314, .int p3325, .int p3326, .int p3327])), (q3308, .inl (I .long, 8640, .inr (.inl f3328))), (q3309, .inl (I .long, 12, .inr (.inl f3329))), (q3310, .inl (I .int, 720, .inl f3330)), (q3311, .inl (I .long, 480, .inr (.inl f3331))), (q3312, .inl (I .long, 480, .inr (.inl f3332))), (q3313, .inl (I .long, 480, .inr (.inl f3333))), (q3314, .inl (I .long, 12, .inr (.inl f3334)))]
set_option maxRecDepth 100000 in
set_option maxHeartbeats 4000000 in
theorem ct_3339_Colouring_coloursAround (l : Launch) (hl0 : l.stackTraces = false) (D : va_G) (I : FieldType → ClassId) (q3300 : Nat) (q3301 : Nat) (q3302 : Nat) (q3303 : Nat) (q3304 : Nat) (q3305 : Nat) (q3306 : Nat) (q3307 : Nat) (q3308 : Nat) (q3309 : Nat) (q3310 : Nat) (q3311 : Nat) (q3312 : Nat) (q3313 : Nat) (q3314 : Nat) (p3315 : Int32) (p3316 : Int32) (p3317 : Int32) (p3318 : Int32) (p3319 : Int32) (f3320 : Nat → Int32) (f3321 : Nat → Int32) (f3322 : Nat → Int32) (f3323 : Nat → Int32) (f3324 : Nat → Int32) (p3325 : Int32) (p3326 : Int32) (p3327 : Int32) (f3328 : Nat → Int64) (f3329 : Nat → Int64) (f3330 : Nat → Int32) (f3331 : Nat → Int64) (f3332 : Nat → Int64) (f3333 : Nat → Int64) (f3334 : Nat → Int64) (bp3315 : gB p3315 0 719) (bp3316 : gB p3316 0 720) (bp3317 : gB p3317 0 720) (bp3318 : gB p3318 0 720) (bp3319 : gB p3319 0 12) (bf3322 : gF f3322 0 719) (bf3323 : gF f3323 0 719) (bp3325 : gB p3325 0 720) (bp3326 : gB p3326 0 12) (bp3327 : gB p3327 0 1) (x3335 : p3315.toInt < p3318.toInt) (x3336 : p3319.toInt = (p3318.toInt + 63) / 64) (x3337 : lb_W f3328 (p3318.toInt * p3319.toInt) (p3319.toInt) (p3318.toInt)) (x3338 : p3326.toInt = (p3325.toInt + 63) / 64) : Ct (gV D I) l yX1_coloursAround cX1_coloursAround 9 (some FieldType.long) 2 42 0 0 [.ref q3300, .int p3315] [(q3300, .inr (6, [.ref q3301, .ref q3302, .ref q3303, .ref q3304, .ref q3305, .ref q3306, .int p3316, .int p3317])), (q3301, .inr (8, [.ref q3307, .ref q3308, .ref q3309, .ref q3310, .int p3318, .int p3319])), (q3302, .inl (I .int, 720, .inl f3320)), (q3303, .inl (I .int, 720, .inl f3321)), (q3304, .inl (I .int, 720, .inl f3322)), (q3305, .inl (I .int, 720, .inl f3323)), (q3306, .inl (I .int, 720, .inl f3324)), (q3307, .inr (10, [.ref q3311, .ref q3312, .ref q3313, .ref q3314, .int p3325, .int p3326, .int p3327])), (q3308, .inl (I .long, 8640, .inr (.inl f3328))), (q3309, .inl (I .long, 12, .inr (.inl f3329))), (q3310, .inl (I .int, 720, .inl f3330)), (q3311, .inl (I .long, 480, .inr (.inl f3331))), (q3312, .inl (I .long, 480, .inr (.inl f3332))), (q3313, .inl (I .long, 480, .inr (.inl f3333))), (q3314, .inl (I .long, 12, .inr (.inl f3334)))] (po_3339_Colouring_coloursAround I q3300 q3301 q3302 q3303 q3304 q3305 q3306 q3307 q3308 q3309 q3310 q3311 q3312 q3313 q3314 p3315 p3316 p3317 p3318 p3319 f3320 f3321 f3322 f3323 f3324 p3325 p3326 p3327 f3328 f3329 f3330 f3331 f3332 f3333 f3334) gN := by
  refine Ct_of hl0 (by decide) (Nat.le_of_ble_eq_true rfl) ?_
  refine G_lconst 0 d_cX1_coloursAround_0 rfl ?_
  refine G_lstore_n (L' := [(2, .long 0), (0, .ref q3300), (1, .int p3315)]) d_cX1_coloursAround_1 (Nat.le_of_ble_eq_true rfl) rfl ?_
  refine G_iconst 0 d_cX1_coloursAround_2 (by decide +kernel) ?_
  refine G_istore (L' := [(4, .int 0), (2, .long 0), (0, .ref q3300), (1, .int p3315)]) d_cX1_coloursAround_3 (Nat.le_of_ble_eq_true rfl) rfl ?_
  have hlp5_4391 : ∀ (n5_4391 : Nat) (g4390 : Int32) (gl4391 : Int64), gB g4390 0 12 → ((13 : Int) - g4390.toInt).toNat < n5_4391 → G (gV D I) l (gRm 2 42 0 0) (gM (gV D I) (po_3339_Colouring_coloursAround I q3300 q3301 q3302 q3303 q3304 q3305 q3306 q3307 q3308 q3309 q3310 q3311 q3312 q3313 q3314 p3315 p3316 p3317 p3318 p3319 f3320 f3321 f3322 f3323 f3324 p3325 p3326 p3327 f3328 f3329 f3330 f3331 f3332 f3333 f3334) gN 0 0) ky_3339_Colouring_coloursAround 5 [(4, .int g4390), (2, .long gl4391), (0, .ref q3300), (1, .int p3315)] [] [(q3300, .inr (6, [.ref q3301, .ref q3302, .ref q3303, .ref q3304, .ref q3305, .ref q3306, .int p3316, .int p3317])), (q3301, .inr (8, [.ref q3307, .ref q3308, .ref q3309, .ref q3310, .int p3318, .int p3319])), (q3302, .inl (I .int, 720, .inl f3320)), (q3303, .inl (I .int, 720, .inl f3321)), (q3304, .inl (I .int, 720, .inl f3322)), (q3305, .inl (I .int, 720, .inl f3323)), (q3306, .inl (I .int, 720, .inl f3324)), (q3307, .inr (10, [.ref q3311, .ref q3312, .ref q3313, .ref q3314, .int p3325, .int p3326, .int p3327])), (q3308, .inl (I .long, 8640, .inr (.inl f3328))), (q3309, .inl (I .long, 12, .inr (.inl f3329))), (q3310, .inl (I .int, 720, .inl f3330)), (q3311, .inl (I .long, 480, .inr (.inl f3331))), (q3312, .inl (I .long, 480, .inr (.inl f3332))), (q3313, .inl (I .long, 480, .inr (.inl f3333))), (q3314, .inl (I .long, 12, .inr (.inl f3334)))] 0 0 := by
    intro n5_4391
    induction n5_4391 with
    | zero => intro g4390 gl4391 bg4390 hm5_4391; exact absurd hm5_4391 (Nat.not_lt_zero _)
    | succ n5_4391 ih5_4391 =>
      intro g4390 gl4391 bg4390 hm5_4391
      refine G_iload 0 d_cX1_coloursAround_5 rfl ?_
      refine G_aload_n 2 d_cX1_coloursAround_7 rfl ?_
      refine G_getf 0 0 d_cX1_coloursAround_8 rfl (gk_X1 D I) (Nat.le_of_ble_eq_true rfl) w_2_78 rfl ?_
      refine G_getfN 1 5 d_cX1_coloursAround_11 rfl (gk_X3 D I) (Nat.le_of_ble_eq_true rfl) (fun _ _ _ h => gn_w 60 rfl h) rfl ?_
      refine G_icmp_ge 112 d_cX1_coloursAround_14 (by decide +kernel) (fun hc4392 => ?_) (fun hc4392 => ?_)
      · have r4393 : p3319.toInt ≤ g4390.toInt := gC_le hc4392
        refine G_lload_n 1 d_cX1_coloursAround_112 rfl ?_
        exact G_lret d_cX1_coloursAround_113 rfl (Nat.le_of_ble_eq_true rfl) (Nat.le_of_ble_eq_true rfl) ⟨gl4391, rfl, rfl⟩
      · have r4394 : g4390.toInt < p3319.toInt := gC_nle hc4392
        have bg4390' : gB g4390 0 11 := ⟨by omega, by omega⟩
        have bp3319' : gB p3319 1 12 := ⟨by omega, by omega⟩
        refine G_aload_n 2 d_cX1_coloursAround_17 rfl ?_
        refine G_getf 0 0 d_cX1_coloursAround_18 rfl (gk_X1 D I) (Nat.le_of_ble_eq_true rfl) w_2_78 rfl ?_
        refine G_getfN 1 1 d_cX1_coloursAround_21 rfl (gk_X3 D I) (Nat.le_of_ble_eq_true rfl) (fun _ _ _ h => gn_w 56 rfl h) rfl ?_
        refine G_iload_n 3 d_cX1_coloursAround_24 rfl ?_
        refine G_aload_n 2 d_cX1_coloursAround_25 rfl ?_
        refine G_getf 0 0 d_cX1_coloursAround_26 rfl (gk_X1 D I) (Nat.le_of_ble_eq_true rfl) w_2_78 rfl ?_
        refine G_getfN 1 5 d_cX1_coloursAround_29 rfl (gk_X3 D I) (Nat.le_of_ble_eq_true rfl) (fun _ _ _ h => gn_w 60 rfl h) rfl ?_
        refine G_imul d_cX1_coloursAround_32 (G_nam fun z4395 hz4395 => ?_)
        have ez4395 : z4395.toInt = p3315.toInt * p3319.toInt := by rw [gI_mul hz4395 bp3315 bp3319' (by decide) (by decide) (by decide)]
        have bz4395 : gB z4395 0 8628 := gB_mul hz4395 bp3315 bp3319' (by decide) (by decide) (by decide) (by decide)
        refine G_iload 0 d_cX1_coloursAround_33 rfl ?_
        refine G_iadd d_cX1_coloursAround_35 (G_nam fun z4396 hz4396 => ?_)
        have ez4396 : z4396.toInt = z4395.toInt + g4390.toInt := by rw [gI_add hz4396 bz4395 bg4390' (by decide) (by decide)]
        have bz4396 : gB z4396 0 8639 := gB_add (gI_add hz4396 bz4395 bg4390' (by decide) (by decide)) bz4395 bg4390' (by decide) (by decide)
        refine G_lald 8 2 d_cX1_coloursAround_36 rfl rfl (gB_in bz4396 (by decide) (by decide)) (G_namL fun u4397 hu4397 => ?_)
        have qu4397 : lb_Q u4397 (p3318.toInt - 64 * g4390.toInt) := lb_Wld hu4397 x3337 (by omega) (lb_Lt1 ez4396 ez4395 (by omega) (by omega) (by omega)) (lb_Mod1 ez4396 ez4395 (by omega) (by omega))
        refine G_lstore (L' := [(5, .long u4397), (4, .int g4390), (2, .long gl4391), (0, .ref q3300), (1, .int p3315)]) d_cX1_coloursAround_37 (Nat.le_of_ble_eq_true rfl) rfl ?_
        refine G_iconst 0 d_cX1_coloursAround_39 (by decide +kernel) ?_
        refine G_istore (L' := [(7, .int 0), (5, .long u4397), (4, .int g4390), (2, .long gl4391), (0, .ref q3300), (1, .int p3315)]) d_cX1_coloursAround_40 (Nat.le_of_ble_eq_true rfl) rfl ?_
        have hlp42_4542 : ∀ (n42_4542 : Nat) (g4539 : Int32) (gl4540 : Int64) (gl4541 : Int64), gB g4539 0 64 → lb_Q gl4540 (p3318.toInt - 64 * g4390.toInt) → ((65 : Int) - g4539.toInt).toNat < n42_4542 → G (gV D I) l (gRm 2 42 0 0) (gM (gV D I) (po_3339_Colouring_coloursAround I q3300 q3301 q3302 q3303 q3304 q3305 q3306 q3307 q3308 q3309 q3310 q3311 q3312 q3313 q3314 p3315 p3316 p3317 p3318 p3319 f3320 f3321 f3322 f3323 f3324 p3325 p3326 p3327 f3328 f3329 f3330 f3331 f3332 f3333 f3334) gN 0 0) ky_3339_Colouring_coloursAround 42 [(7, .int g4539), (5, .long gl4540), (4, .int g4390), (2, .long gl4541), (0, .ref q3300), (1, .int p3315)] [] [(q3300, .inr (6, [.ref q3301, .ref q3302, .ref q3303, .ref q3304, .ref q3305, .ref q3306, .int p3316, .int p3317])), (q3301, .inr (8, [.ref q3307, .ref q3308, .ref q3309, .ref q3310, .int p3318, .int p3319])), (q3302, .inl (I .int, 720, .inl f3320)), (q3303, .inl (I .int, 720, .inl f3321)), (q3304, .inl (I .int, 720, .inl f3322)), (q3305, .inl (I .int, 720, .inl f3323)), (q3306, .inl (I .int, 720, .inl f3324)), (q3307, .inr (10, [.ref q3311, .ref q3312, .ref q3313, .ref q3314, .int p3325, .int p3326, .int p3327])), (q3308, .inl (I .long, 8640, .inr (.inl f3328))), (q3309, .inl (I .long, 12, .inr (.inl f3329))), (q3310, .inl (I .int, 720, .inl f3330)), (q3311, .inl (I .long, 480, .inr (.inl f3331))), (q3312, .inl (I .long, 480, .inr (.inl f3332))), (q3313, .inl (I .long, 480, .inr (.inl f3333))), (q3314, .inl (I .long, 12, .inr (.inl f3334)))] 0 0 := by
          intro n42_4542
          induction n42_4542 with
          | zero => intro g4539 gl4540 gl4541 bg4539 x4542 hm42_4542; exact absurd hm42_4542 (Nat.not_lt_zero _)
          | succ n42_4542 ih42_4542 =>
            intro g4539 gl4540 gl4541 bg4539 x4542 hm42_4542
            refine G_iload 0 d_cX1_coloursAround_42 rfl ?_
            refine G_bipush 64 d_cX1_coloursAround_44 (by decide +kernel) ?_
            refine G_icmp_ge 106 d_cX1_coloursAround_46 (by decide +kernel) (fun hc4543 => ?_) (fun hc4543 => ?_)
            · have r4544 : 64 ≤ g4539.toInt := gj_leL hc4543 (show Int32.toInt 64 = 64 by decide)
              have bg4539' : gB g4539 64 64 := ⟨by omega, by omega⟩
              obtain ⟨z4545, hz4545⟩ : ∃ z : Int32, z = g4390 + Int32.ofInt 1 := ⟨_, rfl⟩
              have ez4545 : z4545.toInt = g4390.toInt + 1 := gI_inc hz4545 (by decide) bg4390' (by decide) (by decide)
              have bz4545 : gB z4545 1 12 := ⟨by omega, by omega⟩
              refine G_iinc (L' := [(4, .int z4545), (7, .int g4539), (5, .long gl4540), (2, .long gl4541), (0, .ref q3300), (1, .int p3315)]) z4545 2 d_cX1_coloursAround_106 rfl hz4545.symm (Nat.le_of_ble_eq_true rfl) rfl ?_
              refine G_goto 5 d_cX1_coloursAround_109 (by decide +kernel) ?_
              refine G_lv (L' := [(4, .int z4545), (2, .long gl4541), (0, .ref q3300), (1, .int p3315)]) [0, 3, 4, 5] rfl ?_
              exact ih5_4391 z4545 gl4541 (gB_w bz4545 (by decide) (by decide)) (by omega)
            · have r4546 : g4539.toInt < 64 := gj_nleL hc4543 (show Int32.toInt 64 = 64 by decide)
              have bg4539' : gB g4539 0 63 := ⟨by omega, by omega⟩
              refine G_lload 1 d_cX1_coloursAround_49 rfl ?_
              refine G_lconst 0 d_cX1_coloursAround_51 rfl ?_
              refine G_lcmp d_cX1_coloursAround_52 (G_nam fun z4547 hz4547 => ?_)
              have bz4547 : gB z4547 (-1) 1 := gB_cmp hz4547
              refine G_if_eq 106 d_cX1_coloursAround_53 (by decide +kernel) (fun hc4548 => ?_) (fun hc4548 => ?_)
              · have r4549 : z4547.toInt = 0 := gj_eq hc4548 (show Int32.toInt 0 = 0 by decide)
                have bz4547' : gB z4547 0 0 := ⟨by omega, by omega⟩
                have lhc4548 := gC_cmpE hz4547 hc4548
                obtain ⟨z4550, hz4550⟩ : ∃ z : Int32, z = g4390 + Int32.ofInt 1 := ⟨_, rfl⟩
                have ez4550 : z4550.toInt = g4390.toInt + 1 := gI_inc hz4550 (by decide) bg4390' (by decide) (by decide)
                have bz4550 : gB z4550 1 12 := ⟨by omega, by omega⟩
                refine G_iinc (L' := [(4, .int z4550), (7, .int g4539), (5, .long gl4540), (2, .long gl4541), (0, .ref q3300), (1, .int p3315)]) z4550 2 d_cX1_coloursAround_106 rfl hz4550.symm (Nat.le_of_ble_eq_true rfl) rfl ?_
                refine G_goto 5 d_cX1_coloursAround_109 (by decide +kernel) ?_
                refine G_lv (L' := [(4, .int z4550), (2, .long gl4541), (0, .ref q3300), (1, .int p3315)]) [0, 3, 4, 5] rfl ?_
                exact ih5_4391 z4550 gl4541 (gB_w bz4550 (by decide) (by decide)) (by omega)
              · have r4551 : z4547.toInt ≠ 0 := gj_neq hc4548 (show Int32.toInt 0 = 0 by decide)
                have lhc4548 := gC_cmpN hz4547 hc4548
                refine G_aload_n 4 d_cX1_coloursAround_56 rfl ?_
                refine G_getf 0 5 d_cX1_coloursAround_57 rfl (gk_X1 D I) (Nat.le_of_ble_eq_true rfl) w_2_83 rfl ?_
                refine G_iload 2 d_cX1_coloursAround_60 rfl ?_
                refine G_bipush 6 d_cX1_coloursAround_62 (by decide +kernel) ?_
                refine G_ishl d_cX1_coloursAround_64 (G_nam fun z4552 hz4552 => ?_)
                have ez4552 : z4552.toInt = g4390.toInt * 64 := gI_shl (k := 6) hz4552 (by decide) bg4390' (by decide) (by decide)
                have bz4552 : gB z4552 0 704 := ⟨by omega, by omega⟩
                refine G_lload 1 d_cX1_coloursAround_65 rfl ?_
                refine G_callSN (As := [.long gl4540]) (wr := [(q3300, .inr (6, [.ref q3301, .ref q3302, .ref q3303, .ref q3304, .ref q3305, .ref q3306, .int p3316, .int p3317])), (q3301, .inr (8, [.ref q3307, .ref q3308, .ref q3309, .ref q3310, .int p3318, .int p3319])), (q3302, .inl (I .int, 720, .inl f3320)), (q3303, .inl (I .int, 720, .inl f3321)), (q3304, .inl (I .int, 720, .inl f3322)), (q3305, .inl (I .int, 720, .inl f3323)), (q3306, .inl (I .int, 720, .inl f3324)), (q3307, .inr (10, [.ref q3311, .ref q3312, .ref q3313, .ref q3314, .int p3325, .int p3326, .int p3327])), (q3308, .inl (I .long, 8640, .inr (.inl f3328))), (q3309, .inl (I .long, 12, .inr (.inl f3329))), (q3310, .inl (I .int, 720, .inl f3330)), (q3311, .inl (I .long, 480, .inr (.inl f3331))), (q3312, .inl (I .long, 480, .inr (.inl f3332))), (q3313, .inl (I .long, 480, .inr (.inl f3333))), (q3314, .inl (I .long, 12, .inr (.inl f3334)))]) (gV_ok D I) (ct_2293_SpillForge_lowestBit l hl0 D I gl4540 ) d_cX1_coloursAround_67 ⟨(fun _ _ _ h => gn_w 73 rfl h), w_1_1, w_4_127, by decide, rfl, (Nat.le_of_ble_eq_true rfl), (Nat.le_of_ble_eq_true rfl)⟩ w_4_126 [] [0, 1, 2, 3, 4, 5, 6, 7, 8, 9, 10, 11, 12, 13, 14] rfl rfl rfl rfl (by decide) (Nat.le_of_ble_eq_true rfl) (Nat.le_of_ble_eq_true rfl) (Nat.le_of_ble_eq_true rfl) (fun r w hp => ?_)
                obtain ⟨o4553, rfl, rfl, bo4553, x4554⟩ := hp
                have lwo4553 := lb_lowE lhc4548 x4554
                have bo4553' : gB o4553 0 63 := ⟨by omega, by omega⟩
                have lqo4553 : o4553.toInt < p3318.toInt - 64 * g4390.toInt := lb_lowQ lwo4553 x4542
                change G _ _ _ _ _ _ _ (.int o4553 :: _) _ _ _
                refine G_ws (ws' := [(q3300, .inr (6, [.ref q3301, .ref q3302, .ref q3303, .ref q3304, .ref q3305, .ref q3306, .int p3316, .int p3317])), (q3301, .inr (8, [.ref q3307, .ref q3308, .ref q3309, .ref q3310, .int p3318, .int p3319])), (q3302, .inl (I .int, 720, .inl f3320)), (q3303, .inl (I .int, 720, .inl f3321)), (q3304, .inl (I .int, 720, .inl f3322)), (q3305, .inl (I .int, 720, .inl f3323)), (q3306, .inl (I .int, 720, .inl f3324)), (q3307, .inr (10, [.ref q3311, .ref q3312, .ref q3313, .ref q3314, .int p3325, .int p3326, .int p3327])), (q3308, .inl (I .long, 8640, .inr (.inl f3328))), (q3309, .inl (I .long, 12, .inr (.inl f3329))), (q3310, .inl (I .int, 720, .inl f3330)), (q3311, .inl (I .long, 480, .inr (.inl f3331))), (q3312, .inl (I .long, 480, .inr (.inl f3332))), (q3313, .inl (I .long, 480, .inr (.inl f3333))), (q3314, .inl (I .long, 12, .inr (.inl f3334)))]) (cs' := 0) (sl' := 0) rfl rfl rfl ?_
                refine G_ior d_cX1_coloursAround_70 (G_nam fun z4555 hz4555 => ?_)
                have ez4555 : z4555.toInt = z4552.toInt + o4553.toInt := gI_or (k := 6) (m := (g4390.toInt).toNat) hz4555 (by omega) (bo4553') (by decide) (by omega)
                have bz4555 : gB z4555 0 767 := ⟨by omega, by omega⟩
                refine G_iald 6 0 d_cX1_coloursAround_71 rfl rfl (gB_inr (by omega) (by omega)) (G_nam fun z4556 hz4556 => ?_)
                have bz4556 : gB z4556 (-2147483648) 2147483647 := gB_any z4556
                refine G_istore (L' := [(8, .int z4556), (7, .int g4539), (5, .long gl4540), (4, .int g4390), (2, .long gl4541), (0, .ref q3300), (1, .int p3315)]) d_cX1_coloursAround_72 (Nat.le_of_ble_eq_true rfl) rfl ?_
                refine G_lload 2 d_cX1_coloursAround_74 rfl ?_
                refine G_lload 2 d_cX1_coloursAround_76 rfl ?_
                refine G_lconst 1 d_cX1_coloursAround_78 rfl ?_
                refine G_lsub d_cX1_coloursAround_79 (G_namL fun u4557 hu4557 => ?_)
                refine G_land d_cX1_coloursAround_80 (G_namL fun u4558 hu4558 => ?_)
                have qu4558 : lb_Q u4558 (p3318.toInt - 64 * g4390.toInt) := lb_QandL hu4558 x4542
                refine G_lstore (L' := [(5, .long u4558), (8, .int z4556), (7, .int g4539), (4, .int g4390), (2, .long gl4541), (0, .ref q3300), (1, .int p3315)]) d_cX1_coloursAround_81 (Nat.le_of_ble_eq_true rfl) rfl ?_
                refine G_lload_n 4 d_cX1_coloursAround_83 rfl ?_
                refine G_iload 1 d_cX1_coloursAround_84 rfl ?_
                refine G_iconst (-1) d_cX1_coloursAround_86 (by decide +kernel) ?_
                refine G_icmp_ne 94 d_cX1_coloursAround_87 (by decide +kernel) (fun hc4559 => ?_) (fun hc4559 => ?_)
                · have r4560 : z4556.toInt ≠ (-1) := gj_neq hc4559 (show Int32.toInt (-1) = (-1) by decide)
                  refine G_lconst 1 d_cX1_coloursAround_94 rfl ?_
                  refine G_iload 1 d_cX1_coloursAround_95 rfl ?_
                  refine G_lshl d_cX1_coloursAround_97 (G_namL fun u4561 hu4561 => ?_)
                  refine G_lor d_cX1_coloursAround_98 (G_namL fun u4562 hu4562 => ?_)
                  refine G_lstore_n (L' := [(2, .long u4562), (5, .long u4558), (8, .int z4556), (7, .int g4539), (4, .int g4390), (0, .ref q3300), (1, .int p3315)]) d_cX1_coloursAround_99 (Nat.le_of_ble_eq_true rfl) rfl ?_
                  obtain ⟨z4563, hz4563⟩ : ∃ z : Int32, z = g4539 + Int32.ofInt 1 := ⟨_, rfl⟩
                  have ez4563 : z4563.toInt = g4539.toInt + 1 := gI_inc hz4563 (by decide) bg4539' (by decide) (by decide)
                  have bz4563 : gB z4563 1 64 := ⟨by omega, by omega⟩
                  refine G_iinc (L' := [(7, .int z4563), (2, .long u4562), (5, .long u4558), (8, .int z4556), (4, .int g4390), (0, .ref q3300), (1, .int p3315)]) z4563 3 d_cX1_coloursAround_100 rfl hz4563.symm (Nat.le_of_ble_eq_true rfl) rfl ?_
                  refine G_goto 42 d_cX1_coloursAround_103 (by decide +kernel) ?_
                  refine G_lv (L' := [(7, .int z4563), (5, .long u4558), (4, .int g4390), (2, .long u4562), (0, .ref q3300), (1, .int p3315)]) [0, 2, 4, 1, 5, 6] rfl ?_
                  exact ih42_4542 z4563 u4558 u4562 (gB_w bz4563 (by decide) (by decide)) qu4558 (by omega)
                · have r4564 : z4556.toInt = (-1) := gj_eq hc4559 (show Int32.toInt (-1) = (-1) by decide)
                  have bz4556' : gB z4556 (-1) (-1) := ⟨by omega, by omega⟩
                  refine G_lconst 0 d_cX1_coloursAround_90 rfl ?_
                  refine G_goto 98 d_cX1_coloursAround_91 (by decide +kernel) ?_
                  refine G_lor d_cX1_coloursAround_98 (G_namL fun u4565 hu4565 => ?_)
                  refine G_lstore_n (L' := [(2, .long u4565), (5, .long u4558), (8, .int z4556), (7, .int g4539), (4, .int g4390), (0, .ref q3300), (1, .int p3315)]) d_cX1_coloursAround_99 (Nat.le_of_ble_eq_true rfl) rfl ?_
                  obtain ⟨z4566, hz4566⟩ : ∃ z : Int32, z = g4539 + Int32.ofInt 1 := ⟨_, rfl⟩
                  have ez4566 : z4566.toInt = g4539.toInt + 1 := gI_inc hz4566 (by decide) bg4539' (by decide) (by decide)
                  have bz4566 : gB z4566 1 64 := ⟨by omega, by omega⟩
                  refine G_iinc (L' := [(7, .int z4566), (2, .long u4565), (5, .long u4558), (8, .int z4556), (4, .int g4390), (0, .ref q3300), (1, .int p3315)]) z4566 3 d_cX1_coloursAround_100 rfl hz4566.symm (Nat.le_of_ble_eq_true rfl) rfl ?_
                  refine G_goto 42 d_cX1_coloursAround_103 (by decide +kernel) ?_
                  refine G_lv (L' := [(7, .int z4566), (5, .long u4558), (4, .int g4390), (2, .long u4565), (0, .ref q3300), (1, .int p3315)]) [0, 2, 4, 1, 5, 6] rfl ?_
                  exact ih42_4542 z4566 u4558 u4565 (gB_w bz4566 (by decide) (by decide)) qu4558 (by omega)
        exact hlp42_4542 (((65 : Int) - 0).toNat + 1) 0 u4397 gl4391 (gB_w (gBl (show Int32.toInt 0 = 0 by decide)) (by decide) (by decide)) qu4397 (Nat.lt_succ_self _)
  exact hlp5_4391 (((13 : Int) - 0).toNat + 1) 0 0 (gB_w (gBl (show Int32.toInt 0 = 0 by decide)) (by decide) (by decide)) (Nat.lt_succ_self _)
abbrev ky_4606_Colouring_takeApart : gKey := (cX1_takeApart, 5, yX1_takeApart.cls, none, [], yX1_takeApart.name, fun _ _ => True)
abbrev po_4606_Colouring_takeApart (I : FieldType → ClassId) (q4568 : Nat) (q4569 : Nat) (q4570 : Nat) (q4571 : Nat) (q4572 : Nat) (q4573 : Nat) (q4574 : Nat) (q4575 : Nat) (q4576 : Nat) (q4577 : Nat) (q4578 : Nat) (q4579 : Nat) (q4580 : Nat) (q4581 : Nat) (q4582 : Nat) (p4583 : Int32) (p4584 : Int32) (p4585 : Int32) (p4586 : Int32) (p4587 : Int32) (f4588 : Nat → Int32) (f4589 : Nat → Int32) (f4590 : Nat → Int32) (f4591 : Nat → Int32) (f4592 : Nat → Int32) (p4593 : Int32) (p4594 : Int32) (p4595 : Int32) (f4596 : Nat → Int64) (f4597 : Nat → Int64) (f4598 : Nat → Int32) (f4599 : Nat → Int64) (f4600 : Nat → Int64) (f4601 : Nat → Int64) (f4602 : Nat → Int64) : Option Value → va_W → Prop := fun r w => ∃ (o5268 : Int32) (o5269 : Int32) (f5270 : Nat → Int32) (f5271 : Nat → Int32) (f5272 : Nat → Int32), r = none ∧ w = [(q4568, .inr (6, [.ref q4569, .ref q4570, .ref q4571, .ref q4572, .ref q4573, .ref q4574, .int o5268, .int o5269])), (q4569, .inr (8, [.ref q4575, .ref q4576, .ref q4577, .ref q4578, .int p4586, .int p4587])), (q4570, .inl (I .int, 720, .inl f4588)), (q4571, .inl (I .int, 720, .inl f5270)), (q4572, .inl (I .int, 720, .inl f5271)), (q4573, .inl (I .int, 720, .inl f5272)), (q4574, .inl (I .int, 720, .inl f4592)), (q4575, .inr (10, [.ref q4579, .ref q4580, .ref q4581, .ref q4582, .int p4593, .int p4594, .int p4595])), (q4576, .inl (I .long, 8640, .inr (.inl f4596))), (q4577, .inl (I .long, 12, .inr (.inl f4597))), (q4578, .inl (I .int, 720, .inl f4598)), (q4579, .inl (I .long, 480, .inr (.inl f4599))), (q4580, .inl (I .long, 480, .inr (.inl f4600))), (q4581, .inl (I .long, 480, .inr (.inl f4601))), (q4582, .inl (I .long, 12, .inr (.inl f4602)))] ∧ gB o5268 0 720 ∧ gB o5269 0 720 ∧ gF f5270 (-2147483648) 2147483647 ∧ gF f5271 0 719 ∧ gF f5272 0 719 ∧ gP f5272 (o5269.toInt) (p4586.toInt)
set_option maxRecDepth 100000 in
set_option maxHeartbeats 4000000 in
theorem ct_4606_Colouring_takeApart (l : Launch) (hl0 : l.stackTraces = false) (D : va_G) (I : FieldType → ClassId) (q4568 : Nat) (q4569 : Nat) (q4570 : Nat) (q4571 : Nat) (q4572 : Nat) (q4573 : Nat) (q4574 : Nat) (q4575 : Nat) (q4576 : Nat) (q4577 : Nat) (q4578 : Nat) (q4579 : Nat) (q4580 : Nat) (q4581 : Nat) (q4582 : Nat) (p4583 : Int32) (p4584 : Int32) (p4585 : Int32) (p4586 : Int32) (p4587 : Int32) (f4588 : Nat → Int32) (f4589 : Nat → Int32) (f4590 : Nat → Int32) (f4591 : Nat → Int32) (f4592 : Nat → Int32) (p4593 : Int32) (p4594 : Int32) (p4595 : Int32) (f4596 : Nat → Int64) (f4597 : Nat → Int64) (f4598 : Nat → Int32) (f4599 : Nat → Int64) (f4600 : Nat → Int64) (f4601 : Nat → Int64) (f4602 : Nat → Int64) (bp4584 : gB p4584 0 720) (bp4585 : gB p4585 0 720) (bp4586 : gB p4586 0 720) (bp4587 : gB p4587 0 12) (bf4590 : gF f4590 0 719) (bf4591 : gF f4591 0 719) (bp4593 : gB p4593 0 720) (bp4594 : gB p4594 0 12) (bp4595 : gB p4595 0 1) (x4603 : p4587.toInt = (p4586.toInt + 63) / 64) (x4604 : lb_W f4596 (p4586.toInt * p4587.toInt) (p4587.toInt) (p4586.toInt)) (x4605 : p4594.toInt = (p4593.toInt + 63) / 64) : Ct (gV D I) l yX1_takeApart cX1_takeApart 5 none 3 67 0 0 [.ref q4568, .int p4583] [(q4568, .inr (6, [.ref q4569, .ref q4570, .ref q4571, .ref q4572, .ref q4573, .ref q4574, .int p4584, .int p4585])), (q4569, .inr (8, [.ref q4575, .ref q4576, .ref q4577, .ref q4578, .int p4586, .int p4587])), (q4570, .inl (I .int, 720, .inl f4588)), (q4571, .inl (I .int, 720, .inl f4589)), (q4572, .inl (I .int, 720, .inl f4590)), (q4573, .inl (I .int, 720, .inl f4591)), (q4574, .inl (I .int, 720, .inl f4592)), (q4575, .inr (10, [.ref q4579, .ref q4580, .ref q4581, .ref q4582, .int p4593, .int p4594, .int p4595])), (q4576, .inl (I .long, 8640, .inr (.inl f4596))), (q4577, .inl (I .long, 12, .inr (.inl f4597))), (q4578, .inl (I .int, 720, .inl f4598)), (q4579, .inl (I .long, 480, .inr (.inl f4599))), (q4580, .inl (I .long, 480, .inr (.inl f4600))), (q4581, .inl (I .long, 480, .inr (.inl f4601))), (q4582, .inl (I .long, 12, .inr (.inl f4602)))] (po_4606_Colouring_takeApart I q4568 q4569 q4570 q4571 q4572 q4573 q4574 q4575 q4576 q4577 q4578 q4579 q4580 q4581 q4582 p4583 p4584 p4585 p4586 p4587 f4588 f4589 f4590 f4591 f4592 p4593 p4594 p4595 f4596 f4597 f4598 f4599 f4600 f4601 f4602) gN := by
  refine Ct_of hl0 (by decide) (Nat.le_of_ble_eq_true rfl) ?_
  have bp4583 := gB_any p4583
  refine G_aload_n 0 d_cX1_takeApart_0 rfl ?_
  refine G_iconst 0 d_cX1_takeApart_1 (by decide +kernel) ?_
  refine G_putf (ws' := [(q4568, .inr (6, [.ref q4569, .ref q4570, .ref q4571, .ref q4572, .ref q4573, .ref q4574, .int 0, .int p4585])), (q4569, .inr (8, [.ref q4575, .ref q4576, .ref q4577, .ref q4578, .int p4586, .int p4587])), (q4570, .inl (I .int, 720, .inl f4588)), (q4571, .inl (I .int, 720, .inl f4589)), (q4572, .inl (I .int, 720, .inl f4590)), (q4573, .inl (I .int, 720, .inl f4591)), (q4574, .inl (I .int, 720, .inl f4592)), (q4575, .inr (10, [.ref q4579, .ref q4580, .ref q4581, .ref q4582, .int p4593, .int p4594, .int p4595])), (q4576, .inl (I .long, 8640, .inr (.inl f4596))), (q4577, .inl (I .long, 12, .inr (.inl f4597))), (q4578, .inl (I .int, 720, .inl f4598)), (q4579, .inl (I .long, 480, .inr (.inl f4599))), (q4580, .inl (I .long, 480, .inr (.inl f4600))), (q4581, .inl (I .long, 480, .inr (.inl f4601))), (q4582, .inl (I .long, 12, .inr (.inl f4602)))]) 0 6 d_cX1_takeApart_2 rfl (gk_X1 D I) (Nat.le_of_ble_eq_true rfl) w_2_84 rfl rfl rfl (Nat.le_of_ble_eq_true rfl) rfl ?_
  refine G_aload_n 0 d_cX1_takeApart_5 rfl ?_
  refine G_iconst 0 d_cX1_takeApart_6 (by decide +kernel) ?_
  refine G_putf (ws' := [(q4568, .inr (6, [.ref q4569, .ref q4570, .ref q4571, .ref q4572, .ref q4573, .ref q4574, .int 0, .int 0])), (q4569, .inr (8, [.ref q4575, .ref q4576, .ref q4577, .ref q4578, .int p4586, .int p4587])), (q4570, .inl (I .int, 720, .inl f4588)), (q4571, .inl (I .int, 720, .inl f4589)), (q4572, .inl (I .int, 720, .inl f4590)), (q4573, .inl (I .int, 720, .inl f4591)), (q4574, .inl (I .int, 720, .inl f4592)), (q4575, .inr (10, [.ref q4579, .ref q4580, .ref q4581, .ref q4582, .int p4593, .int p4594, .int p4595])), (q4576, .inl (I .long, 8640, .inr (.inl f4596))), (q4577, .inl (I .long, 12, .inr (.inl f4597))), (q4578, .inl (I .int, 720, .inl f4598)), (q4579, .inl (I .long, 480, .inr (.inl f4599))), (q4580, .inl (I .long, 480, .inr (.inl f4600))), (q4581, .inl (I .long, 480, .inr (.inl f4601))), (q4582, .inl (I .long, 12, .inr (.inl f4602)))]) 0 7 d_cX1_takeApart_7 rfl (gk_X1 D I) (Nat.le_of_ble_eq_true rfl) w_2_85 rfl rfl rfl (Nat.le_of_ble_eq_true rfl) rfl ?_
  refine G_iconst 0 d_cX1_takeApart_10 (by decide +kernel) ?_
  refine G_istore_n (L' := [(2, .int 0), (0, .ref q4568), (1, .int p4583)]) d_cX1_takeApart_11 (Nat.le_of_ble_eq_true rfl) rfl ?_
  have hlp12_5181 : ∀ (n12_5181 : Nat) (g5176 : Int32) (f5177 : Nat → Int32) (g5178 : Int32) (f5179 : Nat → Int32), gB g5176 0 2147483647 → gF f5177 (-2147483648) 2147483647 → gB g5178 0 720 → gF f5179 0 719 → g5178.toInt ≤ g5176.toInt → gP f5179 (g5178.toInt) (p4586.toInt) → ((2147483648 : Int) - g5176.toInt).toNat < n12_5181 → G (gV D I) l (gRm 3 67 0 0) (gM (gV D I) (po_4606_Colouring_takeApart I q4568 q4569 q4570 q4571 q4572 q4573 q4574 q4575 q4576 q4577 q4578 q4579 q4580 q4581 q4582 p4583 p4584 p4585 p4586 p4587 f4588 f4589 f4590 f4591 f4592 p4593 p4594 p4595 f4596 f4597 f4598 f4599 f4600 f4601 f4602) gN 0 0) ky_4606_Colouring_takeApart 12 [(2, .int g5176), (0, .ref q4568), (1, .int p4583)] [] [(q4568, .inr (6, [.ref q4569, .ref q4570, .ref q4571, .ref q4572, .ref q4573, .ref q4574, .int g5178, .int 0])), (q4569, .inr (8, [.ref q4575, .ref q4576, .ref q4577, .ref q4578, .int p4586, .int p4587])), (q4570, .inl (I .int, 720, .inl f4588)), (q4571, .inl (I .int, 720, .inl f5177)), (q4572, .inl (I .int, 720, .inl f5179)), (q4573, .inl (I .int, 720, .inl f4591)), (q4574, .inl (I .int, 720, .inl f4592)), (q4575, .inr (10, [.ref q4579, .ref q4580, .ref q4581, .ref q4582, .int p4593, .int p4594, .int p4595])), (q4576, .inl (I .long, 8640, .inr (.inl f4596))), (q4577, .inl (I .long, 12, .inr (.inl f4597))), (q4578, .inl (I .int, 720, .inl f4598)), (q4579, .inl (I .long, 480, .inr (.inl f4599))), (q4580, .inl (I .long, 480, .inr (.inl f4600))), (q4581, .inl (I .long, 480, .inr (.inl f4601))), (q4582, .inl (I .long, 12, .inr (.inl f4602)))] 0 0 := by
    intro n12_5181
    induction n12_5181 with
    | zero => intro g5176 f5177 g5178 f5179 bg5176 bf5177 bg5178 bf5179 x5180 x5181 hm12_5181; exact absurd hm12_5181 (Nat.not_lt_zero _)
    | succ n12_5181 ih12_5181 =>
      intro g5176 f5177 g5178 f5179 bg5176 bf5177 bg5178 bf5179 x5180 x5181 hm12_5181
      refine G_iload_n 0 d_cX1_takeApart_12 rfl ?_
      refine G_aload_n 1 d_cX1_takeApart_13 rfl ?_
      refine G_getf 0 0 d_cX1_takeApart_14 rfl (gk_X1 D I) (Nat.le_of_ble_eq_true rfl) w_2_78 rfl ?_
      refine G_getfN 1 4 d_cX1_takeApart_17 rfl (gk_X3 D I) (Nat.le_of_ble_eq_true rfl) (fun _ _ _ h => gn_w 59 rfl h) rfl ?_
      refine G_icmp_ge 75 d_cX1_takeApart_20 (by decide +kernel) (fun hc5182 => ?_) (fun hc5182 => ?_)
      · have r5183 : p4586.toInt ≤ g5176.toInt := gC_le hc5182
        refine G_aload_n 1 d_cX1_takeApart_75 rfl ?_
        refine G_getf 0 6 d_cX1_takeApart_76 rfl (gk_X1 D I) (Nat.le_of_ble_eq_true rfl) w_2_84 rfl ?_
        refine G_istore_n (L' := [(2, .int g5178), (0, .ref q4568), (1, .int p4583)]) d_cX1_takeApart_79 (Nat.le_of_ble_eq_true rfl) rfl ?_
        have hlp80_5226 : ∀ (n80_5226 : Nat) (g5217 : Int32) (g5218 : Int32) (g5219 : Int32) (f5220 : Nat → Int32) (f5221 : Nat → Int32) (f5222 : Nat → Int32), gB g5217 0 720 → gB g5218 0 720 → gB g5219 0 720 → gF f5220 (-2147483648) 2147483647 → gF f5221 0 719 → gF f5222 0 719 → g5217.toInt = g5218.toInt → g5219.toInt + g5217.toInt ≤ 720 → gP f5221 (g5218.toInt) (p4586.toInt) → gP f5222 (g5219.toInt) (p4586.toInt) → ((g5217.toInt : Int) - (-1)).toNat < n80_5226 → G (gV D I) l (gRm 3 67 0 0) (gM (gV D I) (po_4606_Colouring_takeApart I q4568 q4569 q4570 q4571 q4572 q4573 q4574 q4575 q4576 q4577 q4578 q4579 q4580 q4581 q4582 p4583 p4584 p4585 p4586 p4587 f4588 f4589 f4590 f4591 f4592 p4593 p4594 p4595 f4596 f4597 f4598 f4599 f4600 f4601 f4602) gN 0 0) ky_4606_Colouring_takeApart 80 [(2, .int g5217), (0, .ref q4568), (1, .int p4583)] [] [(q4568, .inr (6, [.ref q4569, .ref q4570, .ref q4571, .ref q4572, .ref q4573, .ref q4574, .int g5218, .int g5219])), (q4569, .inr (8, [.ref q4575, .ref q4576, .ref q4577, .ref q4578, .int p4586, .int p4587])), (q4570, .inl (I .int, 720, .inl f4588)), (q4571, .inl (I .int, 720, .inl f5220)), (q4572, .inl (I .int, 720, .inl f5221)), (q4573, .inl (I .int, 720, .inl f5222)), (q4574, .inl (I .int, 720, .inl f4592)), (q4575, .inr (10, [.ref q4579, .ref q4580, .ref q4581, .ref q4582, .int p4593, .int p4594, .int p4595])), (q4576, .inl (I .long, 8640, .inr (.inl f4596))), (q4577, .inl (I .long, 12, .inr (.inl f4597))), (q4578, .inl (I .int, 720, .inl f4598)), (q4579, .inl (I .long, 480, .inr (.inl f4599))), (q4580, .inl (I .long, 480, .inr (.inl f4600))), (q4581, .inl (I .long, 480, .inr (.inl f4601))), (q4582, .inl (I .long, 12, .inr (.inl f4602)))] 0 0 := by
          intro n80_5226
          induction n80_5226 with
          | zero => intro g5217 g5218 g5219 f5220 f5221 f5222 bg5217 bg5218 bg5219 bf5220 bf5221 bf5222 x5223 x5224 x5225 x5226 hm80_5226; exact absurd hm80_5226 (Nat.not_lt_zero _)
          | succ n80_5226 ih80_5226 =>
            intro g5217 g5218 g5219 f5220 f5221 f5222 bg5217 bg5218 bg5219 bf5220 bf5221 bf5222 x5223 x5224 x5225 x5226 hm80_5226
            refine G_iload_n 0 d_cX1_takeApart_80 rfl ?_
            refine G_if_le 162 d_cX1_takeApart_81 (by decide +kernel) (fun hc5227 => ?_) (fun hc5227 => ?_)
            · have r5228 : g5217.toInt ≤ 0 := gj_le hc5227 (show Int32.toInt 0 = 0 by decide)
              have bg5217' : gB g5217 0 0 := ⟨by omega, by omega⟩
              exact G_vret d_cX1_takeApart_162 rfl (Nat.le_of_ble_eq_true rfl) (Nat.le_of_ble_eq_true rfl) ⟨g5218, g5219, f5220, f5221, f5222, rfl, rfl, bg5218, bg5219, bf5220, bf5221, bf5222, x5226⟩
            · have r5229 : 0 < g5217.toInt := gj_nle hc5227 (show Int32.toInt 0 = 0 by decide)
              have bg5217' : gB g5217 1 720 := ⟨by omega, by omega⟩
              refine G_aload_n 1 d_cX1_takeApart_84 rfl ?_
              refine G_iload_n 2 d_cX1_takeApart_85 rfl ?_
              refine G_callV (As := [.int p4583]) (wr := []) (gV_ok D I) (ct_1354_Colouring_nextOfRest l hl0 D I q4568 q4569 q4570 q4571 q4572 q4573 q4574 q4575 q4576 q4577 q4578 q4579 q4580 q4581 q4582 p4583 g5218 g5219 p4586 p4587 f4588 f5220 f5221 f5222 f4592 p4593 p4594 p4595 f4596 f4597 f4598 f4599 f4600 f4601 f4602 bg5218 bg5219 bp4586 bp4587 bf5221 bf5222 bp4593 bp4594 bp4595 (by omega) (by omega) x4604 (by omega)) d_cX1_takeApart_86 ⟨w_5_123, w_1_11, w_5_126, by decide, rfl, (Nat.le_of_ble_eq_true rfl), (Nat.le_of_ble_eq_true rfl)⟩ w_5_125 w_p_43 0 rfl rfl [0, 1, 2, 3, 4, 5, 6, 7, 8, 9, 10, 11, 12, 13, 14] [] rfl rfl rfl rfl (by decide) (Nat.le_of_ble_eq_true rfl) (Nat.le_of_ble_eq_true rfl) (Nat.le_of_ble_eq_true rfl) (fun r w hp => ?_) (fun _ _ _ z => z.elim)
              obtain ⟨o5230, rfl, rfl, bo5230, x5231⟩ := hp
              change G _ _ _ _ _ _ _ (.int o5230 :: _) _ _ _
              refine G_ws (ws' := [(q4568, .inr (6, [.ref q4569, .ref q4570, .ref q4571, .ref q4572, .ref q4573, .ref q4574, .int g5218, .int g5219])), (q4569, .inr (8, [.ref q4575, .ref q4576, .ref q4577, .ref q4578, .int p4586, .int p4587])), (q4570, .inl (I .int, 720, .inl f4588)), (q4571, .inl (I .int, 720, .inl f5220)), (q4572, .inl (I .int, 720, .inl f5221)), (q4573, .inl (I .int, 720, .inl f5222)), (q4574, .inl (I .int, 720, .inl f4592)), (q4575, .inr (10, [.ref q4579, .ref q4580, .ref q4581, .ref q4582, .int p4593, .int p4594, .int p4595])), (q4576, .inl (I .long, 8640, .inr (.inl f4596))), (q4577, .inl (I .long, 12, .inr (.inl f4597))), (q4578, .inl (I .int, 720, .inl f4598)), (q4579, .inl (I .long, 480, .inr (.inl f4599))), (q4580, .inl (I .long, 480, .inr (.inl f4600))), (q4581, .inl (I .long, 480, .inr (.inl f4601))), (q4582, .inl (I .long, 12, .inr (.inl f4602)))]) (cs' := 0) (sl' := 0) rfl rfl rfl ?_
              refine G_istore_n (L' := [(3, .int o5230), (2, .int g5217), (0, .ref q4568), (1, .int p4583)]) d_cX1_takeApart_89 (Nat.le_of_ble_eq_true rfl) rfl ?_
              have bo5230' : gB o5230 0 719 := ⟨by omega, by omega⟩
              refine G_aload_n 2 d_cX1_takeApart_90 rfl ?_
              refine G_getf 0 3 d_cX1_takeApart_91 rfl (gk_X1 D I) (Nat.le_of_ble_eq_true rfl) w_2_81 rfl ?_
              refine G_iload_n 0 d_cX1_takeApart_94 rfl ?_
              refine G_iald 4 0 d_cX1_takeApart_95 rfl rfl (gB_in bo5230' (by decide) (by decide)) (G_nam fun z5232 hz5232 => ?_)
              have bz5232 : gB z5232 0 719 := by rw [hz5232]; exact bf5221 _
              have pz5232 := gP_ld hz5232 x5225 (by omega) (by omega)
              refine G_istore (L' := [(4, .int z5232), (3, .int o5230), (2, .int g5217), (0, .ref q4568), (1, .int p4583)]) d_cX1_takeApart_96 (Nat.le_of_ble_eq_true rfl) rfl ?_
              refine G_aload_n 3 d_cX1_takeApart_98 rfl ?_
              refine G_dup d_cX1_takeApart_99 rfl ?_
              refine G_getf 0 6 d_cX1_takeApart_100 rfl (gk_X1 D I) (Nat.le_of_ble_eq_true rfl) w_2_84 rfl ?_
              refine G_iconst 1 d_cX1_takeApart_103 (by decide +kernel) ?_
              refine G_isub d_cX1_takeApart_104 (G_nam fun z5233 hz5233 => ?_)
              have ez5233 : z5233.toInt = g5218.toInt - 1 := by rw [gI_sub hz5233 bg5218 (gBl (show Int32.toInt 1 = 1 by decide)) (by decide) (by decide), show Int32.toInt 1 = 1 from by decide]
              have bz5233 : gB z5233 (-1) 719 := gB_sub (gI_sub hz5233 bg5218 (gBl (show Int32.toInt 1 = 1 by decide)) (by decide) (by decide)) bg5218 (gBl (show Int32.toInt 1 = 1 by decide)) (by decide) (by decide)
              refine G_putf (ws' := [(q4568, .inr (6, [.ref q4569, .ref q4570, .ref q4571, .ref q4572, .ref q4573, .ref q4574, .int z5233, .int g5219])), (q4569, .inr (8, [.ref q4575, .ref q4576, .ref q4577, .ref q4578, .int p4586, .int p4587])), (q4570, .inl (I .int, 720, .inl f4588)), (q4571, .inl (I .int, 720, .inl f5220)), (q4572, .inl (I .int, 720, .inl f5221)), (q4573, .inl (I .int, 720, .inl f5222)), (q4574, .inl (I .int, 720, .inl f4592)), (q4575, .inr (10, [.ref q4579, .ref q4580, .ref q4581, .ref q4582, .int p4593, .int p4594, .int p4595])), (q4576, .inl (I .long, 8640, .inr (.inl f4596))), (q4577, .inl (I .long, 12, .inr (.inl f4597))), (q4578, .inl (I .int, 720, .inl f4598)), (q4579, .inl (I .long, 480, .inr (.inl f4599))), (q4580, .inl (I .long, 480, .inr (.inl f4600))), (q4581, .inl (I .long, 480, .inr (.inl f4601))), (q4582, .inl (I .long, 12, .inr (.inl f4602)))]) 0 6 d_cX1_takeApart_105 rfl (gk_X1 D I) (Nat.le_of_ble_eq_true rfl) w_2_84 rfl rfl rfl (Nat.le_of_ble_eq_true rfl) rfl ?_
              refine G_aload_n 3 d_cX1_takeApart_108 rfl ?_
              refine G_getf 0 3 d_cX1_takeApart_109 rfl (gk_X1 D I) (Nat.le_of_ble_eq_true rfl) w_2_81 rfl ?_
              refine G_iload_n 1 d_cX1_takeApart_112 rfl ?_
              refine G_iconst 1 d_cX1_takeApart_113 (by decide +kernel) ?_
              refine G_iadd d_cX1_takeApart_114 (G_nam fun z5234 hz5234 => ?_)
              have ez5234 : z5234.toInt = o5230.toInt + 1 := by rw [gI_add hz5234 bo5230' (gBl (show Int32.toInt 1 = 1 by decide)) (by decide) (by decide), show Int32.toInt 1 = 1 from by decide]
              have bz5234 : gB z5234 1 720 := gB_add (gI_add hz5234 bo5230' (gBl (show Int32.toInt 1 = 1 by decide)) (by decide) (by decide)) bo5230' (gBl (show Int32.toInt 1 = 1 by decide)) (by decide) (by decide)
              refine G_aload_n 3 d_cX1_takeApart_115 rfl ?_
              refine G_getf 0 3 d_cX1_takeApart_116 rfl (gk_X1 D I) (Nat.le_of_ble_eq_true rfl) w_2_81 rfl ?_
              refine G_iload_n 1 d_cX1_takeApart_119 rfl ?_
              refine G_aload_n 3 d_cX1_takeApart_120 rfl ?_
              refine G_getf 0 6 d_cX1_takeApart_121 rfl (gk_X1 D I) (Nat.le_of_ble_eq_true rfl) w_2_84 rfl ?_
              refine G_iload_n 1 d_cX1_takeApart_124 rfl ?_
              refine G_isub d_cX1_takeApart_125 (G_nam fun z5235 hz5235 => ?_)
              have ez5235 : z5235.toInt = z5233.toInt - o5230.toInt := by rw [gI_sub hz5235 bz5233 bo5230' (by decide) (by decide)]
              have bz5235 : gB z5235 (-720) 719 := gB_sub (gI_sub hz5235 bz5233 bo5230' (by decide) (by decide)) bz5233 bo5230' (by decide) (by decide)
              refine G_copyi 4 4 0 0 d_cX1_takeApart_126 w_5_131 w_5_113 w_5_112 w_1_34 rfl rfl rfl rfl (by omega) (by omega) (by omega) (by omega) (by omega) (Nat.le_of_ble_eq_true rfl) (Nat.le_of_ble_eq_true rfl) (fun f5236 hf5236 => ?_)
              refine G_ws (ws' := [(q4568, .inr (6, [.ref q4569, .ref q4570, .ref q4571, .ref q4572, .ref q4573, .ref q4574, .int z5233, .int g5219])), (q4569, .inr (8, [.ref q4575, .ref q4576, .ref q4577, .ref q4578, .int p4586, .int p4587])), (q4570, .inl (I .int, 720, .inl f4588)), (q4571, .inl (I .int, 720, .inl f5220)), (q4572, .inl (I .int, 720, .inl f5236)), (q4573, .inl (I .int, 720, .inl f5222)), (q4574, .inl (I .int, 720, .inl f4592)), (q4575, .inr (10, [.ref q4579, .ref q4580, .ref q4581, .ref q4582, .int p4593, .int p4594, .int p4595])), (q4576, .inl (I .long, 8640, .inr (.inl f4596))), (q4577, .inl (I .long, 12, .inr (.inl f4597))), (q4578, .inl (I .int, 720, .inl f4598)), (q4579, .inl (I .long, 480, .inr (.inl f4599))), (q4580, .inl (I .long, 480, .inr (.inl f4600))), (q4581, .inl (I .long, 480, .inr (.inl f4601))), (q4582, .inl (I .long, 12, .inr (.inl f4602)))]) (cs' := 0) (sl' := 0) rfl rfl rfl ?_
              have wf5236 : gP f5236 (z5233.toInt) (p4586.toInt) := gP_cpy hf5236 (gP_le x5225 (by omega)) (by omega) (by omega) (by omega) (by omega)
              have bf5236 : gF f5236 0 719 := gF_cpy hf5236 bf5221 bf5221
              refine G_aload_n 3 d_cX1_takeApart_129 rfl ?_
              refine G_getf 0 4 d_cX1_takeApart_130 rfl (gk_X1 D I) (Nat.le_of_ble_eq_true rfl) w_2_82 rfl ?_
              refine G_aload_n 3 d_cX1_takeApart_133 rfl ?_
              refine G_getf 0 7 d_cX1_takeApart_134 rfl (gk_X1 D I) (Nat.le_of_ble_eq_true rfl) w_2_85 rfl ?_
              refine G_iload 0 d_cX1_takeApart_137 rfl ?_
              refine G_iastN 5 0 d_cX1_takeApart_139 rfl rfl (gB_inr (by omega) (by omega)) (fun f5237 hf5237 => ?_)
              refine G_ws (ws' := [(q4568, .inr (6, [.ref q4569, .ref q4570, .ref q4571, .ref q4572, .ref q4573, .ref q4574, .int z5233, .int g5219])), (q4569, .inr (8, [.ref q4575, .ref q4576, .ref q4577, .ref q4578, .int p4586, .int p4587])), (q4570, .inl (I .int, 720, .inl f4588)), (q4571, .inl (I .int, 720, .inl f5220)), (q4572, .inl (I .int, 720, .inl f5236)), (q4573, .inl (I .int, 720, .inl f5237)), (q4574, .inl (I .int, 720, .inl f4592)), (q4575, .inr (10, [.ref q4579, .ref q4580, .ref q4581, .ref q4582, .int p4593, .int p4594, .int p4595])), (q4576, .inl (I .long, 8640, .inr (.inl f4596))), (q4577, .inl (I .long, 12, .inr (.inl f4597))), (q4578, .inl (I .int, 720, .inl f4598)), (q4579, .inl (I .long, 480, .inr (.inl f4599))), (q4580, .inl (I .long, 480, .inr (.inl f4600))), (q4581, .inl (I .long, 480, .inr (.inl f4601))), (q4582, .inl (I .long, 12, .inr (.inl f4602)))]) (cs' := 0) (sl' := 0) rfl rfl rfl ?_
              have wf5237 : gP f5237 (g5219.toInt + 1) (p4586.toInt) := gP_ext hf5237 x5226 (by omega) (by omega) (by omega)
              have bf5237 : gF f5237 0 719 := gF_upd hf5237 bf5222 bz5232
              refine G_aload_n 3 d_cX1_takeApart_140 rfl ?_
              refine G_dup d_cX1_takeApart_141 rfl ?_
              refine G_getf 0 7 d_cX1_takeApart_142 rfl (gk_X1 D I) (Nat.le_of_ble_eq_true rfl) w_2_85 rfl ?_
              refine G_iconst 1 d_cX1_takeApart_145 (by decide +kernel) ?_
              refine G_iadd d_cX1_takeApart_146 (G_nam fun z5238 hz5238 => ?_)
              have ez5238 : z5238.toInt = g5219.toInt + 1 := by rw [gI_add hz5238 bg5219 (gBl (show Int32.toInt 1 = 1 by decide)) (by decide) (by decide), show Int32.toInt 1 = 1 from by decide]
              have bz5238 : gB z5238 1 721 := gB_add (gI_add hz5238 bg5219 (gBl (show Int32.toInt 1 = 1 by decide)) (by decide) (by decide)) bg5219 (gBl (show Int32.toInt 1 = 1 by decide)) (by decide) (by decide)
              refine G_putf (ws' := [(q4568, .inr (6, [.ref q4569, .ref q4570, .ref q4571, .ref q4572, .ref q4573, .ref q4574, .int z5233, .int z5238])), (q4569, .inr (8, [.ref q4575, .ref q4576, .ref q4577, .ref q4578, .int p4586, .int p4587])), (q4570, .inl (I .int, 720, .inl f4588)), (q4571, .inl (I .int, 720, .inl f5220)), (q4572, .inl (I .int, 720, .inl f5236)), (q4573, .inl (I .int, 720, .inl f5237)), (q4574, .inl (I .int, 720, .inl f4592)), (q4575, .inr (10, [.ref q4579, .ref q4580, .ref q4581, .ref q4582, .int p4593, .int p4594, .int p4595])), (q4576, .inl (I .long, 8640, .inr (.inl f4596))), (q4577, .inl (I .long, 12, .inr (.inl f4597))), (q4578, .inl (I .int, 720, .inl f4598)), (q4579, .inl (I .long, 480, .inr (.inl f4599))), (q4580, .inl (I .long, 480, .inr (.inl f4600))), (q4581, .inl (I .long, 480, .inr (.inl f4601))), (q4582, .inl (I .long, 12, .inr (.inl f4602)))]) 0 7 d_cX1_takeApart_147 rfl (gk_X1 D I) (Nat.le_of_ble_eq_true rfl) w_2_85 rfl rfl rfl (Nat.le_of_ble_eq_true rfl) rfl ?_
              refine G_aload_n 3 d_cX1_takeApart_150 rfl ?_
              refine G_iload 0 d_cX1_takeApart_151 rfl ?_
              refine G_callV (As := [.int z5232]) (wr := []) (gV_ok D I) (ct_2280_Colouring_leave l hl0 D I q4568 q4569 q4570 q4571 q4572 q4573 q4574 q4575 q4576 q4577 q4578 q4579 q4580 q4581 q4582 z5232 z5233 z5238 p4586 p4587 f4588 f5220 f5236 f5237 f4592 p4593 p4594 p4595 f4596 f4597 f4598 f4599 f4600 f4601 f4602 bz5232 ⟨by omega, by omega⟩ ⟨by omega, by omega⟩ bp4586 bp4587 bf5236 bf5237 bp4593 bp4594 bp4595 (by omega) (by omega) x4604 (by omega)) d_cX1_takeApart_153 ⟨w_5_132, w_1_11, w_5_135, by decide, rfl, (Nat.le_of_ble_eq_true rfl), (Nat.le_of_ble_eq_true rfl)⟩ w_5_134 w_p_45 0 rfl rfl [0, 1, 2, 3, 4, 5, 6, 7, 8, 9, 10, 11, 12, 13, 14] [] rfl rfl rfl rfl (by decide) (Nat.le_of_ble_eq_true rfl) (Nat.le_of_ble_eq_true rfl) (Nat.le_of_ble_eq_true rfl) (fun r w hp => ?_) (fun _ _ _ z => z.elim)
              obtain ⟨f5239, rfl, rfl, bf5239⟩ := hp
              change G _ _ _ _ _ _ _ _ _ _ _
              refine G_ws (ws' := [(q4568, .inr (6, [.ref q4569, .ref q4570, .ref q4571, .ref q4572, .ref q4573, .ref q4574, .int z5233, .int z5238])), (q4569, .inr (8, [.ref q4575, .ref q4576, .ref q4577, .ref q4578, .int p4586, .int p4587])), (q4570, .inl (I .int, 720, .inl f4588)), (q4571, .inl (I .int, 720, .inl f5239)), (q4572, .inl (I .int, 720, .inl f5236)), (q4573, .inl (I .int, 720, .inl f5237)), (q4574, .inl (I .int, 720, .inl f4592)), (q4575, .inr (10, [.ref q4579, .ref q4580, .ref q4581, .ref q4582, .int p4593, .int p4594, .int p4595])), (q4576, .inl (I .long, 8640, .inr (.inl f4596))), (q4577, .inl (I .long, 12, .inr (.inl f4597))), (q4578, .inl (I .int, 720, .inl f4598)), (q4579, .inl (I .long, 480, .inr (.inl f4599))), (q4580, .inl (I .long, 480, .inr (.inl f4600))), (q4581, .inl (I .long, 480, .inr (.inl f4601))), (q4582, .inl (I .long, 12, .inr (.inl f4602)))]) (cs' := 0) (sl' := 0) rfl rfl rfl ?_
              obtain ⟨z5240, hz5240⟩ : ∃ z : Int32, z = g5217 + Int32.ofInt (-1) := ⟨_, rfl⟩
              have ez5240 : z5240.toInt = g5217.toInt + (-1) := gI_inc hz5240 (by decide) bg5217' (by decide) (by decide)
              have bz5240 : gB z5240 0 719 := ⟨by omega, by omega⟩
              refine G_iinc (L' := [(2, .int z5240), (4, .int z5232), (3, .int o5230), (0, .ref q4568), (1, .int p4583)]) z5240 2 d_cX1_takeApart_156 rfl hz5240.symm (Nat.le_of_ble_eq_true rfl) rfl ?_
              refine G_goto 80 d_cX1_takeApart_159 (by decide +kernel) ?_
              refine G_lv (L' := [(2, .int z5240), (0, .ref q4568), (1, .int p4583)]) [0, 3, 4] rfl ?_
              exact ih80_5226 z5240 z5233 z5238 f5239 f5236 f5237 (gB_w bz5240 (by decide) (by decide)) ⟨by omega, by omega⟩ ⟨by omega, by omega⟩ bf5239 bf5236 bf5237 (by omega) (by omega) wf5236 (gP_le wf5237 (by omega)) (by omega)
        exact hlp80_5226 (((g5178.toInt : Int) - (-1)).toNat + 1) g5178 g5178 0 f5177 f5179 f4591 bg5178 bg5178 (gB_w (gBl (show Int32.toInt 0 = 0 by decide)) (by decide) (by decide)) bf5177 bf5179 bf4591 (by have qa0 : Int32.toInt 0 = 0 := (by decide); omega) (by have qa0 : Int32.toInt 0 = 0 := (by decide); omega) x5181 gP_0 (Nat.lt_succ_self _)
      · have r5241 : g5176.toInt < p4586.toInt := gC_nle hc5182
        have bg5176' : gB g5176 0 719 := ⟨by omega, by omega⟩
        have bp4586' : gB p4586 1 720 := ⟨by omega, by omega⟩
        refine G_aload_n 1 d_cX1_takeApart_23 rfl ?_
        refine G_getf 0 2 d_cX1_takeApart_24 rfl (gk_X1 D I) (Nat.le_of_ble_eq_true rfl) w_2_80 rfl ?_
        refine G_iload_n 0 d_cX1_takeApart_27 rfl ?_
        refine G_aload_n 1 d_cX1_takeApart_28 rfl ?_
        refine G_getf 0 0 d_cX1_takeApart_29 rfl (gk_X1 D I) (Nat.le_of_ble_eq_true rfl) w_2_78 rfl ?_
        refine G_getfN 1 3 d_cX1_takeApart_32 rfl (gk_X3 D I) (Nat.le_of_ble_eq_true rfl) (fun _ _ _ h => gn_w 57 rfl h) rfl ?_
        refine G_iload_n 0 d_cX1_takeApart_35 rfl ?_
        refine G_iald 10 0 d_cX1_takeApart_36 rfl rfl (gB_in bg5176' (by decide) (by decide)) (G_nam fun z5242 hz5242 => ?_)
        have bz5242 : gB z5242 (-2147483648) 2147483647 := gB_any z5242
        refine G_iastN 3 0 d_cX1_takeApart_37 rfl rfl (gB_in bg5176' (by decide) (by decide)) (fun f5243 hf5243 => ?_)
        refine G_ws (ws' := [(q4568, .inr (6, [.ref q4569, .ref q4570, .ref q4571, .ref q4572, .ref q4573, .ref q4574, .int g5178, .int 0])), (q4569, .inr (8, [.ref q4575, .ref q4576, .ref q4577, .ref q4578, .int p4586, .int p4587])), (q4570, .inl (I .int, 720, .inl f4588)), (q4571, .inl (I .int, 720, .inl f5243)), (q4572, .inl (I .int, 720, .inl f5179)), (q4573, .inl (I .int, 720, .inl f4591)), (q4574, .inl (I .int, 720, .inl f4592)), (q4575, .inr (10, [.ref q4579, .ref q4580, .ref q4581, .ref q4582, .int p4593, .int p4594, .int p4595])), (q4576, .inl (I .long, 8640, .inr (.inl f4596))), (q4577, .inl (I .long, 12, .inr (.inl f4597))), (q4578, .inl (I .int, 720, .inl f4598)), (q4579, .inl (I .long, 480, .inr (.inl f4599))), (q4580, .inl (I .long, 480, .inr (.inl f4600))), (q4581, .inl (I .long, 480, .inr (.inl f4601))), (q4582, .inl (I .long, 12, .inr (.inl f4602)))]) (cs' := 0) (sl' := 0) rfl rfl rfl ?_
        refine G_aload_n 1 d_cX1_takeApart_38 rfl ?_
        refine G_getf 0 0 d_cX1_takeApart_39 rfl (gk_X1 D I) (Nat.le_of_ble_eq_true rfl) w_2_78 rfl ?_
        refine G_iload_n 0 d_cX1_takeApart_42 rfl ?_
        refine G_callV (As := [.int g5176]) (wr := [(q4568, .inr (6, [.ref q4569, .ref q4570, .ref q4571, .ref q4572, .ref q4573, .ref q4574, .int g5178, .int 0])), (q4570, .inl (I .int, 720, .inl f4588)), (q4571, .inl (I .int, 720, .inl f5243)), (q4572, .inl (I .int, 720, .inl f5179)), (q4573, .inl (I .int, 720, .inl f4591)), (q4574, .inl (I .int, 720, .inl f4592))]) (gV_ok D I) (ct_111_Graph_stands l hl0 D I q4569 q4575 q4576 q4577 q4578 q4579 q4580 q4581 q4582 g5176 p4586 p4587 p4593 p4594 p4595 f4596 f4597 f4598 f4599 f4600 f4601 f4602 (gB_w bp4586' (by decide) (by decide)) bp4587 bp4593 bp4594 bp4595 (by have qa0 : Int32.toInt 0 = 0 := (by decide); omega) x4604 (by have qa0 : Int32.toInt 0 = 0 := (by decide); omega)) d_cX1_takeApart_43 ⟨w_5_122, w_1_9, w_4_167, by decide, rfl, (Nat.le_of_ble_eq_true rfl), (Nat.le_of_ble_eq_true rfl)⟩ w_4_165 w_4_166 1 rfl rfl [1, 7, 8, 9, 10, 11, 12, 13, 14] [0, 2, 3, 4, 5, 6] rfl rfl rfl rfl (by decide) (Nat.le_of_ble_eq_true rfl) (Nat.le_of_ble_eq_true rfl) (Nat.le_of_ble_eq_true rfl) (fun r w hp => ?_) (fun _ _ _ z => z.elim)
        rcases hp with ⟨rfl, rfl, r5244⟩ | ⟨rfl, rfl, r5245, r5246⟩ | ⟨z5247, z5248, rfl, rfl, r5249, r5250, r5251, r5252, r5253, r5254⟩ | ⟨z5255, z5256, rfl, rfl, r5257, r5258, r5259, r5260, r5261, r5262⟩
        · exact absurd (show False by omega) not_false
        · have bp4586'' : gB p4586 1 719 := ⟨by omega, by omega⟩
          have bg5176'' : gB g5176 1 719 := ⟨by omega, by omega⟩
          change G _ _ _ _ _ _ _ (.int 0 :: _) _ _ _
          refine G_ws (ws' := [(q4568, .inr (6, [.ref q4569, .ref q4570, .ref q4571, .ref q4572, .ref q4573, .ref q4574, .int g5178, .int 0])), (q4570, .inl (I .int, 720, .inl f4588)), (q4571, .inl (I .int, 720, .inl f5243)), (q4572, .inl (I .int, 720, .inl f5179)), (q4573, .inl (I .int, 720, .inl f4591)), (q4574, .inl (I .int, 720, .inl f4592)), (q4569, .inr (8, [.ref q4575, .ref q4576, .ref q4577, .ref q4578, .int p4586, .int p4587])), (q4575, .inr (10, [.ref q4579, .ref q4580, .ref q4581, .ref q4582, .int p4593, .int p4594, .int p4595])), (q4576, .inl (I .long, 8640, .inr (.inl f4596))), (q4577, .inl (I .long, 12, .inr (.inl f4597))), (q4578, .inl (I .int, 720, .inl f4598)), (q4579, .inl (I .long, 480, .inr (.inl f4599))), (q4580, .inl (I .long, 480, .inr (.inl f4600))), (q4581, .inl (I .long, 480, .inr (.inl f4601))), (q4582, .inl (I .long, 12, .inr (.inl f4602)))]) (cs' := 0) (sl' := 0) rfl rfl rfl ?_
          refine G_if_eq 69 d_cX1_takeApart_46 (by decide +kernel) (fun _ => ?_) (fun hc => absurd hc (by decide))
          obtain ⟨z5263, hz5263⟩ : ∃ z : Int32, z = g5176 + Int32.ofInt 1 := ⟨_, rfl⟩
          have ez5263 : z5263.toInt = g5176.toInt + 1 := gI_inc hz5263 (by decide) bg5176'' (by decide) (by decide)
          have bz5263 : gB z5263 2 720 := ⟨by omega, by omega⟩
          refine G_iinc (L' := [(2, .int z5263), (0, .ref q4568), (1, .int p4583)]) z5263 0 d_cX1_takeApart_69 rfl hz5263.symm (Nat.le_of_ble_eq_true rfl) rfl ?_
          refine G_goto 12 d_cX1_takeApart_72 (by decide +kernel) ?_
          refine G_sub (ws' := [(q4568, .inr (6, [.ref q4569, .ref q4570, .ref q4571, .ref q4572, .ref q4573, .ref q4574, .int g5178, .int 0])), (q4569, .inr (8, [.ref q4575, .ref q4576, .ref q4577, .ref q4578, .int p4586, .int p4587])), (q4570, .inl (I .int, 720, .inl f4588)), (q4571, .inl (I .int, 720, .inl f5243)), (q4572, .inl (I .int, 720, .inl f5179)), (q4573, .inl (I .int, 720, .inl f4591)), (q4574, .inl (I .int, 720, .inl f4592)), (q4575, .inr (10, [.ref q4579, .ref q4580, .ref q4581, .ref q4582, .int p4593, .int p4594, .int p4595])), (q4576, .inl (I .long, 8640, .inr (.inl f4596))), (q4577, .inl (I .long, 12, .inr (.inl f4597))), (q4578, .inl (I .int, 720, .inl f4598)), (q4579, .inl (I .long, 480, .inr (.inl f4599))), (q4580, .inl (I .long, 480, .inr (.inl f4600))), (q4581, .inl (I .long, 480, .inr (.inl f4601))), (q4582, .inl (I .long, 12, .inr (.inl f4602)))]) [0, 6, 1, 2, 3, 4, 5, 7, 8, 9, 10, 11, 12, 13, 14] rfl rfl ?_
          exact ih12_5181 z5263 f5243 g5178 f5179 (gB_w bz5263 (by decide) (by decide)) (gF_any f5243) bg5178 bf5179 (by have qa0 : Int32.toInt 0 = 0 := (by decide); omega) x5181 (by have qa0 : Int32.toInt 0 = 0 := (by decide); omega)
        · change G _ _ _ _ _ _ _ (.int 0 :: _) _ _ _
          refine G_ws (ws' := [(q4568, .inr (6, [.ref q4569, .ref q4570, .ref q4571, .ref q4572, .ref q4573, .ref q4574, .int g5178, .int 0])), (q4570, .inl (I .int, 720, .inl f4588)), (q4571, .inl (I .int, 720, .inl f5243)), (q4572, .inl (I .int, 720, .inl f5179)), (q4573, .inl (I .int, 720, .inl f4591)), (q4574, .inl (I .int, 720, .inl f4592)), (q4569, .inr (8, [.ref q4575, .ref q4576, .ref q4577, .ref q4578, .int p4586, .int p4587])), (q4575, .inr (10, [.ref q4579, .ref q4580, .ref q4581, .ref q4582, .int p4593, .int p4594, .int p4595])), (q4576, .inl (I .long, 8640, .inr (.inl f4596))), (q4577, .inl (I .long, 12, .inr (.inl f4597))), (q4578, .inl (I .int, 720, .inl f4598)), (q4579, .inl (I .long, 480, .inr (.inl f4599))), (q4580, .inl (I .long, 480, .inr (.inl f4600))), (q4581, .inl (I .long, 480, .inr (.inl f4601))), (q4582, .inl (I .long, 12, .inr (.inl f4602)))]) (cs' := 0) (sl' := 0) rfl rfl rfl ?_
          refine G_if_eq 69 d_cX1_takeApart_46 (by decide +kernel) (fun _ => ?_) (fun hc => absurd hc (by decide))
          obtain ⟨z5264, hz5264⟩ : ∃ z : Int32, z = g5176 + Int32.ofInt 1 := ⟨_, rfl⟩
          have ez5264 : z5264.toInt = g5176.toInt + 1 := gI_inc hz5264 (by decide) bg5176' (by decide) (by decide)
          have bz5264 : gB z5264 1 720 := ⟨by omega, by omega⟩
          refine G_iinc (L' := [(2, .int z5264), (0, .ref q4568), (1, .int p4583)]) z5264 0 d_cX1_takeApart_69 rfl hz5264.symm (Nat.le_of_ble_eq_true rfl) rfl ?_
          refine G_goto 12 d_cX1_takeApart_72 (by decide +kernel) ?_
          refine G_sub (ws' := [(q4568, .inr (6, [.ref q4569, .ref q4570, .ref q4571, .ref q4572, .ref q4573, .ref q4574, .int g5178, .int 0])), (q4569, .inr (8, [.ref q4575, .ref q4576, .ref q4577, .ref q4578, .int p4586, .int p4587])), (q4570, .inl (I .int, 720, .inl f4588)), (q4571, .inl (I .int, 720, .inl f5243)), (q4572, .inl (I .int, 720, .inl f5179)), (q4573, .inl (I .int, 720, .inl f4591)), (q4574, .inl (I .int, 720, .inl f4592)), (q4575, .inr (10, [.ref q4579, .ref q4580, .ref q4581, .ref q4582, .int p4593, .int p4594, .int p4595])), (q4576, .inl (I .long, 8640, .inr (.inl f4596))), (q4577, .inl (I .long, 12, .inr (.inl f4597))), (q4578, .inl (I .int, 720, .inl f4598)), (q4579, .inl (I .long, 480, .inr (.inl f4599))), (q4580, .inl (I .long, 480, .inr (.inl f4600))), (q4581, .inl (I .long, 480, .inr (.inl f4601))), (q4582, .inl (I .long, 12, .inr (.inl f4602)))]) [0, 6, 1, 2, 3, 4, 5, 7, 8, 9, 10, 11, 12, 13, 14] rfl rfl ?_
          exact ih12_5181 z5264 f5243 g5178 f5179 (gB_w bz5264 (by decide) (by decide)) (gF_any f5243) bg5178 bf5179 (by have qa0 : Int32.toInt 0 = 0 := (by decide); omega) x5181 (by have qa0 : Int32.toInt 0 = 0 := (by decide); omega)
        · change G _ _ _ _ _ _ _ (.int 1 :: _) _ _ _
          refine G_ws (ws' := [(q4568, .inr (6, [.ref q4569, .ref q4570, .ref q4571, .ref q4572, .ref q4573, .ref q4574, .int g5178, .int 0])), (q4570, .inl (I .int, 720, .inl f4588)), (q4571, .inl (I .int, 720, .inl f5243)), (q4572, .inl (I .int, 720, .inl f5179)), (q4573, .inl (I .int, 720, .inl f4591)), (q4574, .inl (I .int, 720, .inl f4592)), (q4569, .inr (8, [.ref q4575, .ref q4576, .ref q4577, .ref q4578, .int p4586, .int p4587])), (q4575, .inr (10, [.ref q4579, .ref q4580, .ref q4581, .ref q4582, .int p4593, .int p4594, .int p4595])), (q4576, .inl (I .long, 8640, .inr (.inl f4596))), (q4577, .inl (I .long, 12, .inr (.inl f4597))), (q4578, .inl (I .int, 720, .inl f4598)), (q4579, .inl (I .long, 480, .inr (.inl f4599))), (q4580, .inl (I .long, 480, .inr (.inl f4600))), (q4581, .inl (I .long, 480, .inr (.inl f4601))), (q4582, .inl (I .long, 12, .inr (.inl f4602)))]) (cs' := 0) (sl' := 0) rfl rfl rfl ?_
          refine G_if_eq 69 d_cX1_takeApart_46 (by decide +kernel) (fun hc => absurd hc (by decide)) (fun _ => ?_)
          refine G_aload_n 1 d_cX1_takeApart_49 rfl ?_
          refine G_getf 0 3 d_cX1_takeApart_50 rfl (gk_X1 D I) (Nat.le_of_ble_eq_true rfl) w_2_81 rfl ?_
          refine G_aload_n 1 d_cX1_takeApart_53 rfl ?_
          refine G_getf 0 6 d_cX1_takeApart_54 rfl (gk_X1 D I) (Nat.le_of_ble_eq_true rfl) w_2_84 rfl ?_
          refine G_iload_n 0 d_cX1_takeApart_57 rfl ?_
          refine G_iastN 3 0 d_cX1_takeApart_58 rfl rfl (gB_inr (by omega) (by omega)) (fun f5265 hf5265 => ?_)
          refine G_ws (ws' := [(q4568, .inr (6, [.ref q4569, .ref q4570, .ref q4571, .ref q4572, .ref q4573, .ref q4574, .int g5178, .int 0])), (q4570, .inl (I .int, 720, .inl f4588)), (q4571, .inl (I .int, 720, .inl f5243)), (q4572, .inl (I .int, 720, .inl f5265)), (q4573, .inl (I .int, 720, .inl f4591)), (q4574, .inl (I .int, 720, .inl f4592)), (q4569, .inr (8, [.ref q4575, .ref q4576, .ref q4577, .ref q4578, .int p4586, .int p4587])), (q4575, .inr (10, [.ref q4579, .ref q4580, .ref q4581, .ref q4582, .int p4593, .int p4594, .int p4595])), (q4576, .inl (I .long, 8640, .inr (.inl f4596))), (q4577, .inl (I .long, 12, .inr (.inl f4597))), (q4578, .inl (I .int, 720, .inl f4598)), (q4579, .inl (I .long, 480, .inr (.inl f4599))), (q4580, .inl (I .long, 480, .inr (.inl f4600))), (q4581, .inl (I .long, 480, .inr (.inl f4601))), (q4582, .inl (I .long, 12, .inr (.inl f4602)))]) (cs' := 0) (sl' := 0) rfl rfl rfl ?_
          have wf5265 : gP f5265 (g5178.toInt + 1) (p4586.toInt) := gP_ext hf5265 x5181 (by omega) (by omega) (by omega)
          have bf5265 : gF f5265 0 719 := gF_upd hf5265 bf5179 bg5176'
          refine G_aload_n 1 d_cX1_takeApart_59 rfl ?_
          refine G_dup d_cX1_takeApart_60 rfl ?_
          refine G_getf 0 6 d_cX1_takeApart_61 rfl (gk_X1 D I) (Nat.le_of_ble_eq_true rfl) w_2_84 rfl ?_
          refine G_iconst 1 d_cX1_takeApart_64 (by decide +kernel) ?_
          refine G_iadd d_cX1_takeApart_65 (G_nam fun z5266 hz5266 => ?_)
          have ez5266 : z5266.toInt = g5178.toInt + 1 := by rw [gI_add hz5266 bg5178 (gBl (show Int32.toInt 1 = 1 by decide)) (by decide) (by decide), show Int32.toInt 1 = 1 from by decide]
          have bz5266 : gB z5266 1 721 := gB_add (gI_add hz5266 bg5178 (gBl (show Int32.toInt 1 = 1 by decide)) (by decide) (by decide)) bg5178 (gBl (show Int32.toInt 1 = 1 by decide)) (by decide) (by decide)
          refine G_putf (ws' := [(q4568, .inr (6, [.ref q4569, .ref q4570, .ref q4571, .ref q4572, .ref q4573, .ref q4574, .int z5266, .int 0])), (q4570, .inl (I .int, 720, .inl f4588)), (q4571, .inl (I .int, 720, .inl f5243)), (q4572, .inl (I .int, 720, .inl f5265)), (q4573, .inl (I .int, 720, .inl f4591)), (q4574, .inl (I .int, 720, .inl f4592)), (q4569, .inr (8, [.ref q4575, .ref q4576, .ref q4577, .ref q4578, .int p4586, .int p4587])), (q4575, .inr (10, [.ref q4579, .ref q4580, .ref q4581, .ref q4582, .int p4593, .int p4594, .int p4595])), (q4576, .inl (I .long, 8640, .inr (.inl f4596))), (q4577, .inl (I .long, 12, .inr (.inl f4597))), (q4578, .inl (I .int, 720, .inl f4598)), (q4579, .inl (I .long, 480, .inr (.inl f4599))), (q4580, .inl (I .long, 480, .inr (.inl f4600))), (q4581, .inl (I .long, 480, .inr (.inl f4601))), (q4582, .inl (I .long, 12, .inr (.inl f4602)))]) 0 6 d_cX1_takeApart_66 rfl (gk_X1 D I) (Nat.le_of_ble_eq_true rfl) w_2_84 rfl rfl rfl (Nat.le_of_ble_eq_true rfl) rfl ?_
          obtain ⟨z5267, hz5267⟩ : ∃ z : Int32, z = g5176 + Int32.ofInt 1 := ⟨_, rfl⟩
          have ez5267 : z5267.toInt = g5176.toInt + 1 := gI_inc hz5267 (by decide) bg5176' (by decide) (by decide)
          have bz5267 : gB z5267 1 720 := ⟨by omega, by omega⟩
          refine G_iinc (L' := [(2, .int z5267), (0, .ref q4568), (1, .int p4583)]) z5267 0 d_cX1_takeApart_69 rfl hz5267.symm (Nat.le_of_ble_eq_true rfl) rfl ?_
          refine G_goto 12 d_cX1_takeApart_72 (by decide +kernel) ?_
          refine G_sub (ws' := [(q4568, .inr (6, [.ref q4569, .ref q4570, .ref q4571, .ref q4572, .ref q4573, .ref q4574, .int z5266, .int 0])), (q4569, .inr (8, [.ref q4575, .ref q4576, .ref q4577, .ref q4578, .int p4586, .int p4587])), (q4570, .inl (I .int, 720, .inl f4588)), (q4571, .inl (I .int, 720, .inl f5243)), (q4572, .inl (I .int, 720, .inl f5265)), (q4573, .inl (I .int, 720, .inl f4591)), (q4574, .inl (I .int, 720, .inl f4592)), (q4575, .inr (10, [.ref q4579, .ref q4580, .ref q4581, .ref q4582, .int p4593, .int p4594, .int p4595])), (q4576, .inl (I .long, 8640, .inr (.inl f4596))), (q4577, .inl (I .long, 12, .inr (.inl f4597))), (q4578, .inl (I .int, 720, .inl f4598)), (q4579, .inl (I .long, 480, .inr (.inl f4599))), (q4580, .inl (I .long, 480, .inr (.inl f4600))), (q4581, .inl (I .long, 480, .inr (.inl f4601))), (q4582, .inl (I .long, 12, .inr (.inl f4602)))]) [0, 6, 1, 2, 3, 4, 5, 7, 8, 9, 10, 11, 12, 13, 14] rfl rfl ?_
          exact ih12_5181 z5267 f5243 z5266 f5265 (gB_w bz5267 (by decide) (by decide)) (gF_any f5243) ⟨by omega, by omega⟩ bf5265 (by have qa0 : Int32.toInt 0 = 0 := (by decide); omega) (gP_le wf5265 (by omega)) (by have qa0 : Int32.toInt 0 = 0 := (by decide); omega)
  exact hlp12_5181 (((2147483648 : Int) - 0).toNat + 1) 0 f4589 0 f4590 (gB_w (gBl (show Int32.toInt 0 = 0 by decide)) (by decide) (by decide)) (gF_any f4589) (gB_w (gBl (show Int32.toInt 0 = 0 by decide)) (by decide) (by decide)) bf4590 (by have qa0 : Int32.toInt 0 = 0 := (by decide); omega) gP_0 (Nat.lt_succ_self _)
