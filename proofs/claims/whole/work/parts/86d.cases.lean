section CASES
variable {p : Program} {l : Launch} {e : Env} {s : State} {m : MethodId} {below : List Frame} {meth : Method} {c : Code} {D : va_G} {cA : Nat → ClassId} {b L : Nat} {xs : Nat → Int32} {q : Nat → Nat} {r : Nat → Nat → Nat} {mq : Nat → Nat} {X Y : va_W} {H : Heap} {locs : List Loc} {ls : Array Slot} {i : Nat}
set_option maxRecDepth 100000 in
set_option maxHeartbeats 4000000 in
theorem sg_believed (C0 : lw_At p s m meth c b L xs) (hC : CX D cA s) (hL : L ≤ 384) (hi : i + 6 ≤ L) (hl : lv_has ls 4 [(0, .ref b), (1, .ref (q 0)), (2, .ref (mq 0)), (3, .int (nI i))]) (hI : Inv cA q r mq X Y) (hP : va_P D vwCl (X ++ Y) H) (hD : va_D (LA s) (X ++ Y)) (hS : va_S (LA s) s.heap H locs) (nx : Nx p l e s m below meth c D cA b q r mq ls) : W p l e room_1 s m #[Value.ref b] below meth c H locs 122 2965 (lw_Z below #[Value.ref b] s) (F0 m 1242 ls []) := by
  obtain ⟨r1, X1, Y1, hx1, hy1, hI1⟩ := st_believed l D hI (xs (i + 1)) (xs (i + 2))
  obtain ⟨⟨a1, a2⟩, ⟨fs, f1⟩, ⟨gs, g1⟩⟩ := hI.addr
  obtain ⟨⟨b1, b2⟩, -, -⟩ := hI1.addr
  obtain ⟨hx, hb, hr, hml, hown0, hts, hX, hbl, hlocks, hgv⟩ := id C0
  have hown : s.vm.findClass RL = some m.cls := hown0
  have hA : ∀ q : Nat, s.heap.size ≤ q → LA s q := fun _ h => h
  refine lv_aload_n hx hb dL_law_1242 rfl (lv_at hl 1 rfl) ?_
  refine law_arg (k := 1) C0 hL hS hl (by omega) (by decide) dL_law_1243 dL_law_1244 dL_law_1245 dL_law_1246 dL_law_1247 ?_
  refine law_arg (k := 2) C0 hL hS hl (by omega) (by decide) dL_law_1248 dL_law_1249 dL_law_1250 dL_law_1251 dL_law_1252 ?_
  refine law_callV (As := [.int (xs (i + 1)), .int (xs (i + 2))]) (rest := []) ⟨hx, hb, hml, hown, hts⟩ hC (hx1.left (Y := Y)) (cwV 2 hts gl_X11_believed rfl rfl rfl (by decide +kernel) ⟨Nat.le_of_ble_eq_true rfl, Nat.le_of_ble_eq_true rfl⟩) hP hD hS hA (by rw [List.map_append, List.map_append, b1, a1]) 0 11 rfl (get_appL f1) rfl hl.1 rfl rfl (Nat.le_of_ble_eq_true rfl) ⟨Nat.le_of_ble_eq_true rfl, Nat.le_of_ble_eq_true rfl⟩ dL_law_1253 (fun H locs hP hD hS => ?_)
  refine lv_aload_n hx hb dL_law_1256 rfl (lv_at hl 2 rfl) ?_
  refine law_arg (k := 1) C0 hL hS hl (by omega) (by decide) dL_law_1257 dL_law_1258 dL_law_1259 dL_law_1260 dL_law_1261 ?_
  refine law_arg (k := 2) C0 hL hS hl (by omega) (by decide) dL_law_1262 dL_law_1263 dL_law_1264 dL_law_1265 dL_law_1266 ?_
  refine law_callV (As := [.int (xs (i + 1)), .int (xs (i + 2))]) (rest := [.long r1]) ⟨hx, hb, hml, hown, hts⟩ hC (hy1.right (X := X1)) (cwV 2 hts gl_X12_believed rfl rfl rfl (by decide +kernel) ⟨Nat.le_of_ble_eq_true rfl, Nat.le_of_ble_eq_true rfl⟩) hP hD hS hA (by rw [List.map_append, List.map_append, b2, a2]) (X1.length + 0) 12 rfl (get_appR g1) rfl hl.1 rfl rfl (Nat.le_of_ble_eq_true rfl) ⟨Nat.le_of_ble_eq_true rfl, Nat.le_of_ble_eq_true rfl⟩ dL_law_1267 (fun H locs hP hD hS => ?_)
  refine W.lcmp hx hb dL_law_1270 ?_
  refine lv_if_eq (tgt := 1448) hx hb dL_law_1271 (by decide) (fun _ => ?_) (fun z => ?_)
  · exact nx X1 Y1 H locs hI1 hP hD hS
  · exact absurd ((lg_cmp_eq _ _).mpr rfl) z
set_option maxRecDepth 100000 in
set_option maxHeartbeats 4000000 in
theorem sg_dig (C0 : lw_At p s m meth c b L xs) (hC : CX D cA s) (hL : L ≤ 384) (hi : i + 6 ≤ L) (hl : lv_has ls 4 [(0, .ref b), (1, .ref (q 0)), (2, .ref (mq 0)), (3, .int (nI i))]) (hI : Inv cA q r mq X Y) (hP : va_P D vwCl (X ++ Y) H) (hD : va_D (LA s) (X ++ Y)) (hS : va_S (LA s) s.heap H locs) (nx : Nx p l e s m below meth c D cA b q r mq ls) : W p l e room_1 s m #[Value.ref b] below meth c H locs 122 2965 (lw_Z below #[Value.ref b] s) (F0 m 1276 ls []) := by
  obtain ⟨r1, X1, Y1, hx1, hy1, hI1⟩ := st_dig l D hI 
  obtain ⟨⟨a1, a2⟩, ⟨fs, f1⟩, ⟨gs, g1⟩⟩ := hI.addr
  obtain ⟨⟨b1, b2⟩, -, -⟩ := hI1.addr
  obtain ⟨hx, hb, hr, hml, hown0, hts, hX, hbl, hlocks, hgv⟩ := id C0
  have hown : s.vm.findClass RL = some m.cls := hown0
  have hA : ∀ q : Nat, s.heap.size ≤ q → LA s q := fun _ h => h
  refine lv_aload_n hx hb dL_law_1276 rfl (lv_at hl 1 rfl) ?_
  refine law_callV (As := []) (rest := []) ⟨hx, hb, hml, hown, hts⟩ hC (hx1.left (Y := Y)) (cwV 0 hts gl_X11_dig rfl rfl rfl (by decide +kernel) ⟨Nat.le_of_ble_eq_true rfl, Nat.le_of_ble_eq_true rfl⟩) hP hD hS hA (by rw [List.map_append, List.map_append, b1, a1]) 0 11 rfl (get_appL f1) rfl hl.1 rfl rfl (Nat.le_of_ble_eq_true rfl) ⟨Nat.le_of_ble_eq_true rfl, Nat.le_of_ble_eq_true rfl⟩ dL_law_1277 (fun H locs hP hD hS => ?_)
  refine lv_aload_n hx hb dL_law_1280 rfl (lv_at hl 2 rfl) ?_
  refine law_callV (As := []) (rest := [.int r1]) ⟨hx, hb, hml, hown, hts⟩ hC (hy1.right (X := X1)) (cwV 0 hts gl_X12_dig rfl rfl rfl (by decide +kernel) ⟨Nat.le_of_ble_eq_true rfl, Nat.le_of_ble_eq_true rfl⟩) hP hD hS hA (by rw [List.map_append, List.map_append, b2, a2]) (X1.length + 0) 12 rfl (get_appR g1) rfl hl.1 rfl rfl (Nat.le_of_ble_eq_true rfl) ⟨Nat.le_of_ble_eq_true rfl, Nat.le_of_ble_eq_true rfl⟩ dL_law_1281 (fun H locs hP hD hS => ?_)
  refine lv_icmp_eq (tgt := 1448) hx hb dL_law_1284 (by decide) (fun _ => ?_) (fun z => ?_)
  · exact nx X1 Y1 H locs hI1 hP hD hS
  · exact absurd rfl z
set_option maxRecDepth 100000 in
set_option maxHeartbeats 4000000 in
theorem sg_minutes (C0 : lw_At p s m meth c b L xs) (hC : CX D cA s) (hL : L ≤ 384) (hi : i + 6 ≤ L) (hl : lv_has ls 4 [(0, .ref b), (1, .ref (q 0)), (2, .ref (mq 0)), (3, .int (nI i))]) (hI : Inv cA q r mq X Y) (hP : va_P D vwCl (X ++ Y) H) (hD : va_D (LA s) (X ++ Y)) (hS : va_S (LA s) s.heap H locs) (nx : Nx p l e s m below meth c D cA b q r mq ls) : W p l e room_1 s m #[Value.ref b] below meth c H locs 122 2965 (lw_Z below #[Value.ref b] s) (F0 m 1289 ls []) := by
  obtain ⟨r1, X1, Y1, hx1, hy1, hI1⟩ := st_minutes l D hI (xs (i + 1)) (xs (i + 2)) (xs (i + 3))
  obtain ⟨⟨a1, a2⟩, ⟨fs, f1⟩, ⟨gs, g1⟩⟩ := hI.addr
  obtain ⟨⟨b1, b2⟩, -, -⟩ := hI1.addr
  obtain ⟨hx, hb, hr, hml, hown0, hts, hX, hbl, hlocks, hgv⟩ := id C0
  have hown : s.vm.findClass RL = some m.cls := hown0
  have hA : ∀ q : Nat, s.heap.size ≤ q → LA s q := fun _ h => h
  refine lv_aload_n hx hb dL_law_1289 rfl (lv_at hl 1 rfl) ?_
  refine law_arg (k := 1) C0 hL hS hl (by omega) (by decide) dL_law_1290 dL_law_1291 dL_law_1292 dL_law_1293 dL_law_1294 ?_
  refine law_arg (k := 2) C0 hL hS hl (by omega) (by decide) dL_law_1295 dL_law_1296 dL_law_1297 dL_law_1298 dL_law_1299 ?_
  refine law_arg (k := 3) C0 hL hS hl (by omega) (by decide) dL_law_1300 dL_law_1301 dL_law_1302 dL_law_1303 dL_law_1304 ?_
  refine law_callV (As := [.int (xs (i + 1)), .int (xs (i + 2)), .int (xs (i + 3))]) (rest := []) ⟨hx, hb, hml, hown, hts⟩ hC (hx1.left (Y := Y)) (cwV 3 hts gl_X11_minutes rfl rfl rfl (by decide +kernel) ⟨Nat.le_of_ble_eq_true rfl, Nat.le_of_ble_eq_true rfl⟩) hP hD hS hA (by rw [List.map_append, List.map_append, b1, a1]) 0 11 rfl (get_appL f1) rfl hl.1 rfl rfl (Nat.le_of_ble_eq_true rfl) ⟨Nat.le_of_ble_eq_true rfl, Nat.le_of_ble_eq_true rfl⟩ dL_law_1305 (fun H locs hP hD hS => ?_)
  refine lv_aload_n hx hb dL_law_1308 rfl (lv_at hl 2 rfl) ?_
  refine law_arg (k := 1) C0 hL hS hl (by omega) (by decide) dL_law_1309 dL_law_1310 dL_law_1311 dL_law_1312 dL_law_1313 ?_
  refine law_arg (k := 2) C0 hL hS hl (by omega) (by decide) dL_law_1314 dL_law_1315 dL_law_1316 dL_law_1317 dL_law_1318 ?_
  refine law_arg (k := 3) C0 hL hS hl (by omega) (by decide) dL_law_1319 dL_law_1320 dL_law_1321 dL_law_1322 dL_law_1323 ?_
  refine law_callV (As := [.int (xs (i + 1)), .int (xs (i + 2)), .int (xs (i + 3))]) (rest := [.int r1]) ⟨hx, hb, hml, hown, hts⟩ hC (hy1.right (X := X1)) (cwV 3 hts gl_X12_minutes rfl rfl rfl (by decide +kernel) ⟨Nat.le_of_ble_eq_true rfl, Nat.le_of_ble_eq_true rfl⟩) hP hD hS hA (by rw [List.map_append, List.map_append, b2, a2]) (X1.length + 0) 12 rfl (get_appR g1) rfl hl.1 rfl rfl (Nat.le_of_ble_eq_true rfl) ⟨Nat.le_of_ble_eq_true rfl, Nat.le_of_ble_eq_true rfl⟩ dL_law_1324 (fun H locs hP hD hS => ?_)
  refine lv_icmp_eq (tgt := 1448) hx hb dL_law_1327 (by decide) (fun _ => ?_) (fun z => ?_)
  · exact nx X1 Y1 H locs hI1 hP hD hS
  · exact absurd rfl z
set_option maxRecDepth 100000 in
set_option maxHeartbeats 4000000 in
theorem sg_trust (C0 : lw_At p s m meth c b L xs) (hC : CX D cA s) (hL : L ≤ 384) (hi : i + 6 ≤ L) (hl : lv_has ls 4 [(0, .ref b), (1, .ref (q 0)), (2, .ref (mq 0)), (3, .int (nI i))]) (hI : Inv cA q r mq X Y) (hP : va_P D vwCl (X ++ Y) H) (hD : va_D (LA s) (X ++ Y)) (hS : va_S (LA s) s.heap H locs) (nx : Nx p l e s m below meth c D cA b q r mq ls) : W p l e room_1 s m #[Value.ref b] below meth c H locs 122 2965 (lw_Z below #[Value.ref b] s) (F0 m 1332 ls []) := by
  obtain ⟨r1, X1, Y1, hx1, hy1, hI1⟩ := st_trust l D hI (xs (i + 1)) (xs (i + 2))
  obtain ⟨⟨a1, a2⟩, ⟨fs, f1⟩, ⟨gs, g1⟩⟩ := hI.addr
  obtain ⟨⟨b1, b2⟩, -, -⟩ := hI1.addr
  obtain ⟨hx, hb, hr, hml, hown0, hts, hX, hbl, hlocks, hgv⟩ := id C0
  have hown : s.vm.findClass RL = some m.cls := hown0
  have hA : ∀ q : Nat, s.heap.size ≤ q → LA s q := fun _ h => h
  refine lv_aload_n hx hb dL_law_1332 rfl (lv_at hl 1 rfl) ?_
  refine law_arg (k := 1) C0 hL hS hl (by omega) (by decide) dL_law_1333 dL_law_1334 dL_law_1335 dL_law_1336 dL_law_1337 ?_
  refine law_arg (k := 2) C0 hL hS hl (by omega) (by decide) dL_law_1338 dL_law_1339 dL_law_1340 dL_law_1341 dL_law_1342 ?_
  refine law_callV (As := [.int (xs (i + 1)), .int (xs (i + 2))]) (rest := []) ⟨hx, hb, hml, hown, hts⟩ hC (hx1.left (Y := Y)) (cwV 2 hts gl_X11_trust rfl rfl rfl (by decide +kernel) ⟨Nat.le_of_ble_eq_true rfl, Nat.le_of_ble_eq_true rfl⟩) hP hD hS hA (by rw [List.map_append, List.map_append, b1, a1]) 0 11 rfl (get_appL f1) rfl hl.1 rfl rfl (Nat.le_of_ble_eq_true rfl) ⟨Nat.le_of_ble_eq_true rfl, Nat.le_of_ble_eq_true rfl⟩ dL_law_1343 (fun H locs hP hD hS => ?_)
  refine lv_aload_n hx hb dL_law_1346 rfl (lv_at hl 2 rfl) ?_
  refine law_arg (k := 1) C0 hL hS hl (by omega) (by decide) dL_law_1347 dL_law_1348 dL_law_1349 dL_law_1350 dL_law_1351 ?_
  refine law_arg (k := 2) C0 hL hS hl (by omega) (by decide) dL_law_1352 dL_law_1353 dL_law_1354 dL_law_1355 dL_law_1356 ?_
  refine law_callV (As := [.int (xs (i + 1)), .int (xs (i + 2))]) (rest := [.int r1]) ⟨hx, hb, hml, hown, hts⟩ hC (hy1.right (X := X1)) (cwV 2 hts gl_X12_trust rfl rfl rfl (by decide +kernel) ⟨Nat.le_of_ble_eq_true rfl, Nat.le_of_ble_eq_true rfl⟩) hP hD hS hA (by rw [List.map_append, List.map_append, b2, a2]) (X1.length + 0) 12 rfl (get_appR g1) rfl hl.1 rfl rfl (Nat.le_of_ble_eq_true rfl) ⟨Nat.le_of_ble_eq_true rfl, Nat.le_of_ble_eq_true rfl⟩ dL_law_1357 (fun H locs hP hD hS => ?_)
  refine lv_icmp_eq (tgt := 1448) hx hb dL_law_1360 (by decide) (fun _ => ?_) (fun z => ?_)
  · exact nx X1 Y1 H locs hI1 hP hD hS
  · exact absurd rfl z
set_option maxRecDepth 100000 in
set_option maxHeartbeats 4000000 in
theorem sg_keep (C0 : lw_At p s m meth c b L xs) (hC : CX D cA s) (hL : L ≤ 384) (hi : i + 6 ≤ L) (hl : lv_has ls 4 [(0, .ref b), (1, .ref (q 0)), (2, .ref (mq 0)), (3, .int (nI i))]) (hI : Inv cA q r mq X Y) (hP : va_P D vwCl (X ++ Y) H) (hD : va_D (LA s) (X ++ Y)) (hS : va_S (LA s) s.heap H locs) (nx : Nx p l e s m below meth c D cA b q r mq ls) : W p l e room_1 s m #[Value.ref b] below meth c H locs 122 2965 (lw_Z below #[Value.ref b] s) (F0 m 1365 ls []) := by
  obtain ⟨r1, X1, Y1, hx1, hy1, hI1⟩ := st_keep l D hI (xs (i + 1))
  obtain ⟨⟨a1, a2⟩, ⟨fs, f1⟩, ⟨gs, g1⟩⟩ := hI.addr
  obtain ⟨⟨b1, b2⟩, -, -⟩ := hI1.addr
  obtain ⟨hx, hb, hr, hml, hown0, hts, hX, hbl, hlocks, hgv⟩ := id C0
  have hown : s.vm.findClass RL = some m.cls := hown0
  have hA : ∀ q : Nat, s.heap.size ≤ q → LA s q := fun _ h => h
  refine lv_aload_n hx hb dL_law_1365 rfl (lv_at hl 1 rfl) ?_
  refine law_arg (k := 1) C0 hL hS hl (by omega) (by decide) dL_law_1366 dL_law_1367 dL_law_1368 dL_law_1369 dL_law_1370 ?_
  refine law_callV (As := [.int (xs (i + 1))]) (rest := []) ⟨hx, hb, hml, hown, hts⟩ hC (hx1.left (Y := Y)) (cwV 1 hts gl_X11_keep rfl rfl rfl (by decide +kernel) ⟨Nat.le_of_ble_eq_true rfl, Nat.le_of_ble_eq_true rfl⟩) hP hD hS hA (by rw [List.map_append, List.map_append, b1, a1]) 0 11 rfl (get_appL f1) rfl hl.1 rfl rfl (Nat.le_of_ble_eq_true rfl) ⟨Nat.le_of_ble_eq_true rfl, Nat.le_of_ble_eq_true rfl⟩ dL_law_1371 (fun H locs hP hD hS => ?_)
  refine lv_aload_n hx hb dL_law_1374 rfl (lv_at hl 2 rfl) ?_
  refine law_arg (k := 1) C0 hL hS hl (by omega) (by decide) dL_law_1375 dL_law_1376 dL_law_1377 dL_law_1378 dL_law_1379 ?_
  refine law_callV (As := [.int (xs (i + 1))]) (rest := [.int r1]) ⟨hx, hb, hml, hown, hts⟩ hC (hy1.right (X := X1)) (cwV 1 hts gl_X12_keep rfl rfl rfl (by decide +kernel) ⟨Nat.le_of_ble_eq_true rfl, Nat.le_of_ble_eq_true rfl⟩) hP hD hS hA (by rw [List.map_append, List.map_append, b2, a2]) (X1.length + 0) 12 rfl (get_appR g1) rfl hl.1 rfl rfl (Nat.le_of_ble_eq_true rfl) ⟨Nat.le_of_ble_eq_true rfl, Nat.le_of_ble_eq_true rfl⟩ dL_law_1380 (fun H locs hP hD hS => ?_)
  refine lv_icmp_eq (tgt := 1448) hx hb dL_law_1383 (by decide) (fun _ => ?_) (fun z => ?_)
  · exact nx X1 Y1 H locs hI1 hP hD hS
  · exact absurd rfl z
set_option maxRecDepth 100000 in
set_option maxHeartbeats 4000000 in
theorem sg_back (C0 : lw_At p s m meth c b L xs) (hC : CX D cA s) (hL : L ≤ 384) (hi : i + 6 ≤ L) (hl : lv_has ls 4 [(0, .ref b), (1, .ref (q 0)), (2, .ref (mq 0)), (3, .int (nI i))]) (hI : Inv cA q r mq X Y) (hP : va_P D vwCl (X ++ Y) H) (hD : va_D (LA s) (X ++ Y)) (hS : va_S (LA s) s.heap H locs) (nx : Nx p l e s m below meth c D cA b q r mq ls) : W p l e room_1 s m #[Value.ref b] below meth c H locs 122 2965 (lw_Z below #[Value.ref b] s) (F0 m 1388 ls []) := by
  obtain ⟨r1, X1, Y1, hx1, hy1, hI1⟩ := st_back l D hI (xs (i + 1))
  obtain ⟨⟨a1, a2⟩, ⟨fs, f1⟩, ⟨gs, g1⟩⟩ := hI.addr
  obtain ⟨⟨b1, b2⟩, -, -⟩ := hI1.addr
  obtain ⟨hx, hb, hr, hml, hown0, hts, hX, hbl, hlocks, hgv⟩ := id C0
  have hown : s.vm.findClass RL = some m.cls := hown0
  have hA : ∀ q : Nat, s.heap.size ≤ q → LA s q := fun _ h => h
  refine lv_aload_n hx hb dL_law_1388 rfl (lv_at hl 1 rfl) ?_
  refine law_arg (k := 1) C0 hL hS hl (by omega) (by decide) dL_law_1389 dL_law_1390 dL_law_1391 dL_law_1392 dL_law_1393 ?_
  refine law_callV (As := [.int (xs (i + 1))]) (rest := []) ⟨hx, hb, hml, hown, hts⟩ hC (hx1.left (Y := Y)) (cwV 1 hts gl_X11_back rfl rfl rfl (by decide +kernel) ⟨Nat.le_of_ble_eq_true rfl, Nat.le_of_ble_eq_true rfl⟩) hP hD hS hA (by rw [List.map_append, List.map_append, b1, a1]) 0 11 rfl (get_appL f1) rfl hl.1 rfl rfl (Nat.le_of_ble_eq_true rfl) ⟨Nat.le_of_ble_eq_true rfl, Nat.le_of_ble_eq_true rfl⟩ dL_law_1394 (fun H locs hP hD hS => ?_)
  refine lv_aload_n hx hb dL_law_1397 rfl (lv_at hl 2 rfl) ?_
  refine law_arg (k := 1) C0 hL hS hl (by omega) (by decide) dL_law_1398 dL_law_1399 dL_law_1400 dL_law_1401 dL_law_1402 ?_
  refine law_callV (As := [.int (xs (i + 1))]) (rest := [.int r1]) ⟨hx, hb, hml, hown, hts⟩ hC (hy1.right (X := X1)) (cwV 1 hts gl_X12_back rfl rfl rfl (by decide +kernel) ⟨Nat.le_of_ble_eq_true rfl, Nat.le_of_ble_eq_true rfl⟩) hP hD hS hA (by rw [List.map_append, List.map_append, b2, a2]) (X1.length + 0) 12 rfl (get_appR g1) rfl hl.1 rfl rfl (Nat.le_of_ble_eq_true rfl) ⟨Nat.le_of_ble_eq_true rfl, Nat.le_of_ble_eq_true rfl⟩ dL_law_1403 (fun H locs hP hD hS => ?_)
  refine lv_icmp_eq (tgt := 1448) hx hb dL_law_1406 (by decide) (fun _ => ?_) (fun z => ?_)
  · exact nx X1 Y1 H locs hI1 hP hD hS
  · exact absurd rfl z
set_option maxRecDepth 100000 in
set_option maxHeartbeats 4000000 in
theorem sg_count (C0 : lw_At p s m meth c b L xs) (hC : CX D cA s) (hL : L ≤ 384) (hi : i + 6 ≤ L) (hl : lv_has ls 4 [(0, .ref b), (1, .ref (q 0)), (2, .ref (mq 0)), (3, .int (nI i))]) (hI : Inv cA q r mq X Y) (hP : va_P D vwCl (X ++ Y) H) (hD : va_D (LA s) (X ++ Y)) (hS : va_S (LA s) s.heap H locs) (nx : Nx p l e s m below meth c D cA b q r mq ls) : W p l e room_1 s m #[Value.ref b] below meth c H locs 122 2965 (lw_Z below #[Value.ref b] s) (F0 m 1411 ls []) := by
  obtain ⟨r1, X1, Y1, hx1, hy1, hI1⟩ := st_count l D hI (xs (i + 1))
  obtain ⟨⟨a1, a2⟩, ⟨fs, f1⟩, ⟨gs, g1⟩⟩ := hI.addr
  obtain ⟨⟨b1, b2⟩, -, -⟩ := hI1.addr
  obtain ⟨hx, hb, hr, hml, hown0, hts, hX, hbl, hlocks, hgv⟩ := id C0
  have hown : s.vm.findClass RL = some m.cls := hown0
  have hA : ∀ q : Nat, s.heap.size ≤ q → LA s q := fun _ h => h
  refine lv_aload_n hx hb dL_law_1411 rfl (lv_at hl 1 rfl) ?_
  refine law_arg (k := 1) C0 hL hS hl (by omega) (by decide) dL_law_1412 dL_law_1413 dL_law_1414 dL_law_1415 dL_law_1416 ?_
  refine law_callV (As := [.int (xs (i + 1))]) (rest := []) ⟨hx, hb, hml, hown, hts⟩ hC (hx1.left (Y := Y)) (cwV 1 hts gl_X11_count rfl rfl rfl (by decide +kernel) ⟨Nat.le_of_ble_eq_true rfl, Nat.le_of_ble_eq_true rfl⟩) hP hD hS hA (by rw [List.map_append, List.map_append, b1, a1]) 0 11 rfl (get_appL f1) rfl hl.1 rfl rfl (Nat.le_of_ble_eq_true rfl) ⟨Nat.le_of_ble_eq_true rfl, Nat.le_of_ble_eq_true rfl⟩ dL_law_1417 (fun H locs hP hD hS => ?_)
  refine lv_aload_n hx hb dL_law_1420 rfl (lv_at hl 2 rfl) ?_
  refine law_arg (k := 1) C0 hL hS hl (by omega) (by decide) dL_law_1421 dL_law_1422 dL_law_1423 dL_law_1424 dL_law_1425 ?_
  refine law_callV (As := [.int (xs (i + 1))]) (rest := [.int r1]) ⟨hx, hb, hml, hown, hts⟩ hC (hy1.right (X := X1)) (cwV 1 hts gl_X12_count rfl rfl rfl (by decide +kernel) ⟨Nat.le_of_ble_eq_true rfl, Nat.le_of_ble_eq_true rfl⟩) hP hD hS hA (by rw [List.map_append, List.map_append, b2, a2]) (X1.length + 0) 12 rfl (get_appR g1) rfl hl.1 rfl rfl (Nat.le_of_ble_eq_true rfl) ⟨Nat.le_of_ble_eq_true rfl, Nat.le_of_ble_eq_true rfl⟩ dL_law_1426 (fun H locs hP hD hS => ?_)
  refine lv_icmp_eq (tgt := 1448) hx hb dL_law_1429 (by decide) (fun _ => ?_) (fun z => ?_)
  · exact nx X1 Y1 H locs hI1 hP hD hS
  · exact absurd rfl z
set_option maxRecDepth 100000 in
set_option maxHeartbeats 4000000 in
theorem sg_trace (C0 : lw_At p s m meth c b L xs) (hC : CX D cA s) (hL : L ≤ 384) (hi : i + 6 ≤ L) (hl : lv_has ls 4 [(0, .ref b), (1, .ref (q 0)), (2, .ref (mq 0)), (3, .int (nI i))]) (hI : Inv cA q r mq X Y) (hP : va_P D vwCl (X ++ Y) H) (hD : va_D (LA s) (X ++ Y)) (hS : va_S (LA s) s.heap H locs) (nx : Nx p l e s m below meth c D cA b q r mq ls) : W p l e room_1 s m #[Value.ref b] below meth c H locs 122 2965 (lw_Z below #[Value.ref b] s) (F0 m 1434 ls []) := by
  obtain ⟨r1, X1, Y1, hx1, hy1, hI1⟩ := st_trace l D hI 
  obtain ⟨⟨a1, a2⟩, ⟨fs, f1⟩, ⟨gs, g1⟩⟩ := hI.addr
  obtain ⟨⟨b1, b2⟩, -, -⟩ := hI1.addr
  obtain ⟨hx, hb, hr, hml, hown0, hts, hX, hbl, hlocks, hgv⟩ := id C0
  have hown : s.vm.findClass RL = some m.cls := hown0
  have hA : ∀ q : Nat, s.heap.size ≤ q → LA s q := fun _ h => h
  refine lv_aload_n hx hb dL_law_1434 rfl (lv_at hl 1 rfl) ?_
  refine law_callV (As := []) (rest := []) ⟨hx, hb, hml, hown, hts⟩ hC (hx1.left (Y := Y)) (cwV 0 hts gl_X11_trace rfl rfl rfl (by decide +kernel) ⟨Nat.le_of_ble_eq_true rfl, Nat.le_of_ble_eq_true rfl⟩) hP hD hS hA (by rw [List.map_append, List.map_append, b1, a1]) 0 11 rfl (get_appL f1) rfl hl.1 rfl rfl (Nat.le_of_ble_eq_true rfl) ⟨Nat.le_of_ble_eq_true rfl, Nat.le_of_ble_eq_true rfl⟩ dL_law_1435 (fun H locs hP hD hS => ?_)
  refine lv_aload_n hx hb dL_law_1438 rfl (lv_at hl 2 rfl) ?_
  refine law_callV (As := []) (rest := [.long r1]) ⟨hx, hb, hml, hown, hts⟩ hC (hy1.right (X := X1)) (cwV 0 hts gl_X12_trace rfl rfl rfl (by decide +kernel) ⟨Nat.le_of_ble_eq_true rfl, Nat.le_of_ble_eq_true rfl⟩) hP hD hS hA (by rw [List.map_append, List.map_append, b2, a2]) (X1.length + 0) 12 rfl (get_appR g1) rfl hl.1 rfl rfl (Nat.le_of_ble_eq_true rfl) ⟨Nat.le_of_ble_eq_true rfl, Nat.le_of_ble_eq_true rfl⟩ dL_law_1439 (fun H locs hP hD hS => ?_)
  refine W.lcmp hx hb dL_law_1442 ?_
  refine lv_if_eq (tgt := 1448) hx hb dL_law_1443 (by decide) (fun _ => ?_) (fun z => ?_)
  · exact nx X1 Y1 H locs hI1 hP hD hS
  · exact absurd ((lg_cmp_eq _ _).mpr rfl) z
end CASES
