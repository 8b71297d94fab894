section CASES
variable {p : Program} {l : Launch} {e : Env} {s : State} {m : MethodId} {below : List Frame} {meth : Method} {c : Code} {D : va_G} {cA : Nat → ClassId} {b L : Nat} {xs : Nat → Int32} {q : Nat → Nat} {r : Nat → Nat → Nat} {mq : Nat → Nat} {X Y : va_W} {H : Heap} {locs : List Loc} {ls : Array Slot} {i : Nat}
set_option maxRecDepth 100000 in
set_option maxHeartbeats 4000000 in
theorem sg_type (C0 : lw_At p s m meth c b L xs) (hC : CX D cA s) (hL : L ≤ 384) (hi : i + 6 ≤ L) (hl : lv_has ls 4 [(0, .ref b), (1, .ref (q 0)), (2, .ref (mq 0)), (3, .int (nI i))]) (hI : Inv cA q r mq X Y) (hP : va_P D vwCl (X ++ Y) H) (hD : va_D (LA s) (X ++ Y)) (hS : va_S (LA s) s.heap H locs) (nx : Nx p l e s m below meth c D cA b q r mq ls) : W p l e room_1 s m #[Value.ref b] below meth c H locs 122 2965 (lw_Z below #[Value.ref b] s) (F0 m 212 ls []) := by
  obtain ⟨r1, X1, Y1, hx1, hy1, hI1⟩ := st_type l D hI ((((xs (i + 1))).toInt64 <<< ((32 : Int32).toInt64 &&& 63)) ||| (((xs (i + 2))).toInt64 &&& (4294967295 : Int64))) (xs (i + 3))
  obtain ⟨⟨a1, a2⟩, ⟨fs, f1⟩, ⟨gs, g1⟩⟩ := hI.addr
  obtain ⟨⟨b1, b2⟩, -, -⟩ := hI1.addr
  obtain ⟨hx, hb, hr, hml, hown0, hts, hX, hbl, hlocks, hgv⟩ := id C0
  have hown : s.vm.findClass RL = some m.cls := hown0
  have hA : ∀ q : Nat, s.heap.size ≤ q → LA s q := fun _ h => h
  refine lv_aload_n hx hb dL_law_212 rfl (lv_at hl 1 rfl) ?_
  refine law_arg (k := 1) C0 hL hS hl (by omega) (by decide) dL_law_213 dL_law_214 dL_law_215 dL_law_216 dL_law_217 ?_
  refine lv_i2l hx hb dL_law_218 rfl ?_
  refine lv_bipush (v := (32 : Int32)) hx hb dL_law_219 (by decide) ?_
  refine lv_lshl hx hb dL_law_221 rfl ?_
  refine law_arg (k := 2) C0 hL hS hl (by omega) (by decide) dL_law_222 dL_law_223 dL_law_224 dL_law_225 dL_law_226 ?_
  refine lv_i2l hx hb dL_law_227 rfl ?_
  refine lv_ldc2 (v := (4294967295 : Int64)) hx hb hown (hts _ (List.mem_of_getElem? (i := 1271) (by decide +kernel))) dL_law_228 ?_
  refine lv_land hx hb dL_law_231 ?_
  refine lv_lor hx hb dL_law_232 ?_
  refine law_arg (k := 3) C0 hL hS hl (by omega) (by decide) dL_law_233 dL_law_234 dL_law_235 dL_law_236 dL_law_237 ?_
  refine law_callV (As := [.long ((((xs (i + 1))).toInt64 <<< ((32 : Int32).toInt64 &&& 63)) ||| (((xs (i + 2))).toInt64 &&& (4294967295 : Int64))), .int (xs (i + 3))]) (rest := []) ⟨hx, hb, hml, hown, hts⟩ hC (hx1.left (Y := Y)) (cwV 2 hts gl_X11_type rfl rfl rfl (by decide +kernel) ⟨Nat.le_of_ble_eq_true rfl, Nat.le_of_ble_eq_true rfl⟩) hP hD hS hA (by rw [List.map_append, List.map_append, b1, a1]) 0 11 rfl (get_appL f1) rfl hl.1 rfl rfl (Nat.le_of_ble_eq_true rfl) ⟨Nat.le_of_ble_eq_true rfl, Nat.le_of_ble_eq_true rfl⟩ dL_law_238 (fun H locs hP hD hS => ?_)
  refine lv_aload_n hx hb dL_law_241 rfl (lv_at hl 2 rfl) ?_
  refine law_arg (k := 1) C0 hL hS hl (by omega) (by decide) dL_law_242 dL_law_243 dL_law_244 dL_law_245 dL_law_246 ?_
  refine lv_i2l hx hb dL_law_247 rfl ?_
  refine lv_bipush (v := (32 : Int32)) hx hb dL_law_248 (by decide) ?_
  refine lv_lshl hx hb dL_law_250 rfl ?_
  refine law_arg (k := 2) C0 hL hS hl (by omega) (by decide) dL_law_251 dL_law_252 dL_law_253 dL_law_254 dL_law_255 ?_
  refine lv_i2l hx hb dL_law_256 rfl ?_
  refine lv_ldc2 (v := (4294967295 : Int64)) hx hb hown (hts _ (List.mem_of_getElem? (i := 1271) (by decide +kernel))) dL_law_257 ?_
  refine lv_land hx hb dL_law_260 ?_
  refine lv_lor hx hb dL_law_261 ?_
  refine law_arg (k := 3) C0 hL hS hl (by omega) (by decide) dL_law_262 dL_law_263 dL_law_264 dL_law_265 dL_law_266 ?_
  refine law_callV (As := [.long ((((xs (i + 1))).toInt64 <<< ((32 : Int32).toInt64 &&& 63)) ||| (((xs (i + 2))).toInt64 &&& (4294967295 : Int64))), .int (xs (i + 3))]) (rest := [.int r1]) ⟨hx, hb, hml, hown, hts⟩ hC (hy1.right (X := X1)) (cwV 2 hts gl_X12_type rfl rfl rfl (by decide +kernel) ⟨Nat.le_of_ble_eq_true rfl, Nat.le_of_ble_eq_true rfl⟩) hP hD hS hA (by rw [List.map_append, List.map_append, b2, a2]) (X1.length + 0) 12 rfl (get_appR g1) rfl hl.1 rfl rfl (Nat.le_of_ble_eq_true rfl) ⟨Nat.le_of_ble_eq_true rfl, Nat.le_of_ble_eq_true rfl⟩ dL_law_267 (fun H locs hP hD hS => ?_)
  refine lv_icmp_eq (tgt := 1448) hx hb dL_law_270 (by decide) (fun _ => ?_) (fun z => ?_)
  · exact nx X1 Y1 H locs hI1 hP hD hS
  · exact absurd rfl z
set_option maxRecDepth 100000 in
set_option maxHeartbeats 4000000 in
theorem sg_clear (C0 : lw_At p s m meth c b L xs) (hC : CX D cA s) (hL : L ≤ 384) (hi : i + 6 ≤ L) (hl : lv_has ls 4 [(0, .ref b), (1, .ref (q 0)), (2, .ref (mq 0)), (3, .int (nI i))]) (hI : Inv cA q r mq X Y) (hP : va_P D vwCl (X ++ Y) H) (hD : va_D (LA s) (X ++ Y)) (hS : va_S (LA s) s.heap H locs) (nx : Nx p l e s m below meth c D cA b q r mq ls) : W p l e room_1 s m #[Value.ref b] below meth c H locs 122 2965 (lw_Z below #[Value.ref b] s) (F0 m 275 ls []) := by
  obtain ⟨r1, X1, Y1, hx1, hy1, hI1⟩ := st_clear l D hI 
  obtain ⟨⟨a1, a2⟩, ⟨fs, f1⟩, ⟨gs, g1⟩⟩ := hI.addr
  obtain ⟨⟨b1, b2⟩, -, -⟩ := hI1.addr
  obtain ⟨hx, hb, hr, hml, hown0, hts, hX, hbl, hlocks, hgv⟩ := id C0
  have hown : s.vm.findClass RL = some m.cls := hown0
  have hA : ∀ q : Nat, s.heap.size ≤ q → LA s q := fun _ h => h
  refine lv_aload_n hx hb dL_law_275 rfl (lv_at hl 1 rfl) ?_
  refine law_callV (As := []) (rest := []) ⟨hx, hb, hml, hown, hts⟩ hC (hx1.left (Y := Y)) (cwV 0 hts gl_X11_clear rfl rfl rfl (by decide +kernel) ⟨Nat.le_of_ble_eq_true rfl, Nat.le_of_ble_eq_true rfl⟩) hP hD hS hA (by rw [List.map_append, List.map_append, b1, a1]) 0 11 rfl (get_appL f1) rfl hl.1 rfl rfl (Nat.le_of_ble_eq_true rfl) ⟨Nat.le_of_ble_eq_true rfl, Nat.le_of_ble_eq_true rfl⟩ dL_law_276 (fun H locs hP hD hS => ?_)
  refine lv_aload_n hx hb dL_law_279 rfl (lv_at hl 2 rfl) ?_
  refine law_callV (As := []) (rest := [.int r1]) ⟨hx, hb, hml, hown, hts⟩ hC (hy1.right (X := X1)) (cwV 0 hts gl_X12_clear rfl rfl rfl (by decide +kernel) ⟨Nat.le_of_ble_eq_true rfl, Nat.le_of_ble_eq_true rfl⟩) hP hD hS hA (by rw [List.map_append, List.map_append, b2, a2]) (X1.length + 0) 12 rfl (get_appR g1) rfl hl.1 rfl rfl (Nat.le_of_ble_eq_true rfl) ⟨Nat.le_of_ble_eq_true rfl, Nat.le_of_ble_eq_true rfl⟩ dL_law_280 (fun H locs hP hD hS => ?_)
  refine lv_icmp_eq (tgt := 1448) hx hb dL_law_283 (by decide) (fun _ => ?_) (fun z => ?_)
  · exact nx X1 Y1 H locs hI1 hP hD hS
  · exact absurd rfl z
set_option maxRecDepth 100000 in
set_option maxHeartbeats 4000000 in
theorem sg_ocean (C0 : lw_At p s m meth c b L xs) (hC : CX D cA s) (hL : L ≤ 384) (hi : i + 6 ≤ L) (hl : lv_has ls 4 [(0, .ref b), (1, .ref (q 0)), (2, .ref (mq 0)), (3, .int (nI i))]) (hI : Inv cA q r mq X Y) (hP : va_P D vwCl (X ++ Y) H) (hD : va_D (LA s) (X ++ Y)) (hS : va_S (LA s) s.heap H locs) (nx : Nx p l e s m below meth c D cA b q r mq ls) : W p l e room_1 s m #[Value.ref b] below meth c H locs 122 2965 (lw_Z below #[Value.ref b] s) (F0 m 288 ls []) := by
  obtain ⟨r1, X1, Y1, hx1, hy1, hI1⟩ := st_ocean l D hI 
  obtain ⟨⟨a1, a2⟩, ⟨fs, f1⟩, ⟨gs, g1⟩⟩ := hI.addr
  obtain ⟨⟨b1, b2⟩, -, -⟩ := hI1.addr
  obtain ⟨hx, hb, hr, hml, hown0, hts, hX, hbl, hlocks, hgv⟩ := id C0
  have hown : s.vm.findClass RL = some m.cls := hown0
  have hA : ∀ q : Nat, s.heap.size ≤ q → LA s q := fun _ h => h
  refine lv_aload_n hx hb dL_law_288 rfl (lv_at hl 1 rfl) ?_
  refine law_callV (As := []) (rest := []) ⟨hx, hb, hml, hown, hts⟩ hC (hx1.left (Y := Y)) (cwV 0 hts gl_X11_ocean rfl rfl rfl (by decide +kernel) ⟨Nat.le_of_ble_eq_true rfl, Nat.le_of_ble_eq_true rfl⟩) hP hD hS hA (by rw [List.map_append, List.map_append, b1, a1]) 0 11 rfl (get_appL f1) rfl hl.1 rfl rfl (Nat.le_of_ble_eq_true rfl) ⟨Nat.le_of_ble_eq_true rfl, Nat.le_of_ble_eq_true rfl⟩ dL_law_289 (fun H locs hP hD hS => ?_)
  refine lv_aload_n hx hb dL_law_292 rfl (lv_at hl 2 rfl) ?_
  refine law_callV (As := []) (rest := [.int r1]) ⟨hx, hb, hml, hown, hts⟩ hC (hy1.right (X := X1)) (cwV 0 hts gl_X12_ocean rfl rfl rfl (by decide +kernel) ⟨Nat.le_of_ble_eq_true rfl, Nat.le_of_ble_eq_true rfl⟩) hP hD hS hA (by rw [List.map_append, List.map_append, b2, a2]) (X1.length + 0) 12 rfl (get_appR g1) rfl hl.1 rfl rfl (Nat.le_of_ble_eq_true rfl) ⟨Nat.le_of_ble_eq_true rfl, Nat.le_of_ble_eq_true rfl⟩ dL_law_293 (fun H locs hP hD hS => ?_)
  refine lv_icmp_eq (tgt := 1448) hx hb dL_law_296 (by decide) (fun _ => ?_) (fun z => ?_)
  · exact nx X1 Y1 H locs hI1 hP hD hS
  · exact absurd rfl z
set_option maxRecDepth 100000 in
set_option maxHeartbeats 4000000 in
theorem sg_depth (C0 : lw_At p s m meth c b L xs) (hC : CX D cA s) (hL : L ≤ 384) (hi : i + 6 ≤ L) (hl : lv_has ls 4 [(0, .ref b), (1, .ref (q 0)), (2, .ref (mq 0)), (3, .int (nI i))]) (hI : Inv cA q r mq X Y) (hP : va_P D vwCl (X ++ Y) H) (hD : va_D (LA s) (X ++ Y)) (hS : va_S (LA s) s.heap H locs) (nx : Nx p l e s m below meth c D cA b q r mq ls) : W p l e room_1 s m #[Value.ref b] below meth c H locs 122 2965 (lw_Z below #[Value.ref b] s) (F0 m 301 ls []) := by
  obtain ⟨r1, X1, Y1, hx1, hy1, hI1⟩ := st_depth l D hI (xs (i + 1))
  obtain ⟨⟨a1, a2⟩, ⟨fs, f1⟩, ⟨gs, g1⟩⟩ := hI.addr
  obtain ⟨⟨b1, b2⟩, -, -⟩ := hI1.addr
  obtain ⟨hx, hb, hr, hml, hown0, hts, hX, hbl, hlocks, hgv⟩ := id C0
  have hown : s.vm.findClass RL = some m.cls := hown0
  have hA : ∀ q : Nat, s.heap.size ≤ q → LA s q := fun _ h => h
  refine lv_aload_n hx hb dL_law_301 rfl (lv_at hl 1 rfl) ?_
  refine law_arg (k := 1) C0 hL hS hl (by omega) (by decide) dL_law_302 dL_law_303 dL_law_304 dL_law_305 dL_law_306 ?_
  refine law_callV (As := [.int (xs (i + 1))]) (rest := []) ⟨hx, hb, hml, hown, hts⟩ hC (hx1.left (Y := Y)) (cwV 1 hts gl_X11_depth rfl rfl rfl (by decide +kernel) ⟨Nat.le_of_ble_eq_true rfl, Nat.le_of_ble_eq_true rfl⟩) hP hD hS hA (by rw [List.map_append, List.map_append, b1, a1]) 0 11 rfl (get_appL f1) rfl hl.1 rfl rfl (Nat.le_of_ble_eq_true rfl) ⟨Nat.le_of_ble_eq_true rfl, Nat.le_of_ble_eq_true rfl⟩ dL_law_307 (fun H locs hP hD hS => ?_)
  refine lv_aload_n hx hb dL_law_310 rfl (lv_at hl 2 rfl) ?_
  refine law_arg (k := 1) C0 hL hS hl (by omega) (by decide) dL_law_311 dL_law_312 dL_law_313 dL_law_314 dL_law_315 ?_
  refine law_callV (As := [.int (xs (i + 1))]) (rest := [.int r1]) ⟨hx, hb, hml, hown, hts⟩ hC (hy1.right (X := X1)) (cwV 1 hts gl_X12_depth rfl rfl rfl (by decide +kernel) ⟨Nat.le_of_ble_eq_true rfl, Nat.le_of_ble_eq_true rfl⟩) hP hD hS hA (by rw [List.map_append, List.map_append, b2, a2]) (X1.length + 0) 12 rfl (get_appR g1) rfl hl.1 rfl rfl (Nat.le_of_ble_eq_true rfl) ⟨Nat.le_of_ble_eq_true rfl, Nat.le_of_ble_eq_true rfl⟩ dL_law_316 (fun H locs hP hD hS => ?_)
  refine lv_icmp_eq (tgt := 1448) hx hb dL_law_319 (by decide) (fun _ => ?_) (fun z => ?_)
  · exact nx X1 Y1 H locs hI1 hP hD hS
  · exact absurd rfl z
set_option maxRecDepth 100000 in
set_option maxHeartbeats 4000000 in
theorem sg_tune (C0 : lw_At p s m meth c b L xs) (hC : CX D cA s) (hL : L ≤ 384) (hi : i + 6 ≤ L) (hl : lv_has ls 4 [(0, .ref b), (1, .ref (q 0)), (2, .ref (mq 0)), (3, .int (nI i))]) (hI : Inv cA q r mq X Y) (hP : va_P D vwCl (X ++ Y) H) (hD : va_D (LA s) (X ++ Y)) (hS : va_S (LA s) s.heap H locs) (nx : Nx p l e s m below meth c D cA b q r mq ls) : W p l e room_1 s m #[Value.ref b] below meth c H locs 122 2965 (lw_Z below #[Value.ref b] s) (F0 m 324 ls []) := by
  obtain ⟨r1, X1, Y1, hx1, hy1, hI1⟩ := st_tune l D hI (xs (i + 1)) (xs (i + 2))
  obtain ⟨⟨a1, a2⟩, ⟨fs, f1⟩, ⟨gs, g1⟩⟩ := hI.addr
  obtain ⟨⟨b1, b2⟩, -, -⟩ := hI1.addr
  obtain ⟨hx, hb, hr, hml, hown0, hts, hX, hbl, hlocks, hgv⟩ := id C0
  have hown : s.vm.findClass RL = some m.cls := hown0
  have hA : ∀ q : Nat, s.heap.size ≤ q → LA s q := fun _ h => h
  refine lv_aload_n hx hb dL_law_324 rfl (lv_at hl 1 rfl) ?_
  refine law_arg (k := 1) C0 hL hS hl (by omega) (by decide) dL_law_325 dL_law_326 dL_law_327 dL_law_328 dL_law_329 ?_
  refine law_arg (k := 2) C0 hL hS hl (by omega) (by decide) dL_law_330 dL_law_331 dL_law_332 dL_law_333 dL_law_334 ?_
  refine law_callV (As := [.int (xs (i + 1)), .int (xs (i + 2))]) (rest := []) ⟨hx, hb, hml, hown, hts⟩ hC (hx1.left (Y := Y)) (cwV 2 hts gl_X11_tune rfl rfl rfl (by decide +kernel) ⟨Nat.le_of_ble_eq_true rfl, Nat.le_of_ble_eq_true rfl⟩) hP hD hS hA (by rw [List.map_append, List.map_append, b1, a1]) 0 11 rfl (get_appL f1) rfl hl.1 rfl rfl (Nat.le_of_ble_eq_true rfl) ⟨Nat.le_of_ble_eq_true rfl, Nat.le_of_ble_eq_true rfl⟩ dL_law_335 (fun H locs hP hD hS => ?_)
  refine lv_aload_n hx hb dL_law_338 rfl (lv_at hl 2 rfl) ?_
  refine law_arg (k := 1) C0 hL hS hl (by omega) (by decide) dL_law_339 dL_law_340 dL_law_341 dL_law_342 dL_law_343 ?_
  refine law_arg (k := 2) C0 hL hS hl (by omega) (by decide) dL_law_344 dL_law_345 dL_law_346 dL_law_347 dL_law_348 ?_
  refine law_callV (As := [.int (xs (i + 1)), .int (xs (i + 2))]) (rest := [.int r1]) ⟨hx, hb, hml, hown, hts⟩ hC (hy1.right (X := X1)) (cwV 2 hts gl_X12_tune rfl rfl rfl (by decide +kernel) ⟨Nat.le_of_ble_eq_true rfl, Nat.le_of_ble_eq_true rfl⟩) hP hD hS hA (by rw [List.map_append, List.map_append, b2, a2]) (X1.length + 0) 12 rfl (get_appR g1) rfl hl.1 rfl rfl (Nat.le_of_ble_eq_true rfl) ⟨Nat.le_of_ble_eq_true rfl, Nat.le_of_ble_eq_true rfl⟩ dL_law_349 (fun H locs hP hD hS => ?_)
  refine lv_icmp_eq (tgt := 1448) hx hb dL_law_352 (by decide) (fun _ => ?_) (fun z => ?_)
  · exact nx X1 Y1 H locs hI1 hP hD hS
  · exact absurd rfl z
set_option maxRecDepth 100000 in
set_option maxHeartbeats 4000000 in
theorem sg_time (C0 : lw_At p s m meth c b L xs) (hC : CX D cA s) (hL : L ≤ 384) (hi : i + 6 ≤ L) (hl : lv_has ls 4 [(0, .ref b), (1, .ref (q 0)), (2, .ref (mq 0)), (3, .int (nI i))]) (hI : Inv cA q r mq X Y) (hP : va_P D vwCl (X ++ Y) H) (hD : va_D (LA s) (X ++ Y)) (hS : va_S (LA s) s.heap H locs) (nx : Nx p l e s m below meth c D cA b q r mq ls) : W p l e room_1 s m #[Value.ref b] below meth c H locs 122 2965 (lw_Z below #[Value.ref b] s) (F0 m 357 ls []) := by
  obtain ⟨r1, X1, Y1, hx1, hy1, hI1⟩ := st_time l D hI (xs (i + 1)) (xs (i + 2))
  obtain ⟨⟨a1, a2⟩, ⟨fs, f1⟩, ⟨gs, g1⟩⟩ := hI.addr
  obtain ⟨⟨b1, b2⟩, -, -⟩ := hI1.addr
  obtain ⟨hx, hb, hr, hml, hown0, hts, hX, hbl, hlocks, hgv⟩ := id C0
  have hown : s.vm.findClass RL = some m.cls := hown0
  have hA : ∀ q : Nat, s.heap.size ≤ q → LA s q := fun _ h => h
  refine lv_aload_n hx hb dL_law_357 rfl (lv_at hl 1 rfl) ?_
  refine law_arg (k := 1) C0 hL hS hl (by omega) (by decide) dL_law_358 dL_law_359 dL_law_360 dL_law_361 dL_law_362 ?_
  refine law_arg (k := 2) C0 hL hS hl (by omega) (by decide) dL_law_363 dL_law_364 dL_law_365 dL_law_366 dL_law_367 ?_
  refine law_callV (As := [.int (xs (i + 1)), .int (xs (i + 2))]) (rest := []) ⟨hx, hb, hml, hown, hts⟩ hC (hx1.left (Y := Y)) (cwV 2 hts gl_X11_time rfl rfl rfl (by decide +kernel) ⟨Nat.le_of_ble_eq_true rfl, Nat.le_of_ble_eq_true rfl⟩) hP hD hS hA (by rw [List.map_append, List.map_append, b1, a1]) 0 11 rfl (get_appL f1) rfl hl.1 rfl rfl (Nat.le_of_ble_eq_true rfl) ⟨Nat.le_of_ble_eq_true rfl, Nat.le_of_ble_eq_true rfl⟩ dL_law_368 (fun H locs hP hD hS => ?_)
  refine lv_aload_n hx hb dL_law_371 rfl (lv_at hl 2 rfl) ?_
  refine law_arg (k := 1) C0 hL hS hl (by omega) (by decide) dL_law_372 dL_law_373 dL_law_374 dL_law_375 dL_law_376 ?_
  refine law_arg (k := 2) C0 hL hS hl (by omega) (by decide) dL_law_377 dL_law_378 dL_law_379 dL_law_380 dL_law_381 ?_
  refine law_callV (As := [.int (xs (i + 1)), .int (xs (i + 2))]) (rest := [.int r1]) ⟨hx, hb, hml, hown, hts⟩ hC (hy1.right (X := X1)) (cwV 2 hts gl_X12_time rfl rfl rfl (by decide +kernel) ⟨Nat.le_of_ble_eq_true rfl, Nat.le_of_ble_eq_true rfl⟩) hP hD hS hA (by rw [List.map_append, List.map_append, b2, a2]) (X1.length + 0) 12 rfl (get_appR g1) rfl hl.1 rfl rfl (Nat.le_of_ble_eq_true rfl) ⟨Nat.le_of_ble_eq_true rfl, Nat.le_of_ble_eq_true rfl⟩ dL_law_382 (fun H locs hP hD hS => ?_)
  refine lv_icmp_eq (tgt := 1448) hx hb dL_law_385 (by decide) (fun _ => ?_) (fun z => ?_)
  · exact nx X1 Y1 H locs hI1 hP hD hS
  · exact absurd rfl z
set_option maxRecDepth 100000 in
set_option maxHeartbeats 4000000 in
theorem sg_height (C0 : lw_At p s m meth c b L xs) (hC : CX D cA s) (hL : L ≤ 384) (hi : i + 6 ≤ L) (hl : lv_has ls 4 [(0, .ref b), (1, .ref (q 0)), (2, .ref (mq 0)), (3, .int (nI i))]) (hI : Inv cA q r mq X Y) (hP : va_P D vwCl (X ++ Y) H) (hD : va_D (LA s) (X ++ Y)) (hS : va_S (LA s) s.heap H locs) (nx : Nx p l e s m below meth c D cA b q r mq ls) : W p l e room_1 s m #[Value.ref b] below meth c H locs 122 2965 (lw_Z below #[Value.ref b] s) (F0 m 390 ls []) := by
  obtain ⟨r1, X1, Y1, hx1, hy1, hI1⟩ := st_height l D hI (xs (i + 1)) (xs (i + 2)) (xs (i + 3))
  obtain ⟨⟨a1, a2⟩, ⟨fs, f1⟩, ⟨gs, g1⟩⟩ := hI.addr
  obtain ⟨⟨b1, b2⟩, -, -⟩ := hI1.addr
  obtain ⟨hx, hb, hr, hml, hown0, hts, hX, hbl, hlocks, hgv⟩ := id C0
  have hown : s.vm.findClass RL = some m.cls := hown0
  have hA : ∀ q : Nat, s.heap.size ≤ q → LA s q := fun _ h => h
  refine lv_aload_n hx hb dL_law_390 rfl (lv_at hl 1 rfl) ?_
  refine law_arg (k := 1) C0 hL hS hl (by omega) (by decide) dL_law_391 dL_law_392 dL_law_393 dL_law_394 dL_law_395 ?_
  refine law_arg (k := 2) C0 hL hS hl (by omega) (by decide) dL_law_396 dL_law_397 dL_law_398 dL_law_399 dL_law_400 ?_
  refine law_arg (k := 3) C0 hL hS hl (by omega) (by decide) dL_law_401 dL_law_402 dL_law_403 dL_law_404 dL_law_405 ?_
  refine law_callV (As := [.int (xs (i + 1)), .int (xs (i + 2)), .int (xs (i + 3))]) (rest := []) ⟨hx, hb, hml, hown, hts⟩ hC (hx1.left (Y := Y)) (cwV 3 hts gl_X11_height rfl rfl rfl (by decide +kernel) ⟨Nat.le_of_ble_eq_true rfl, Nat.le_of_ble_eq_true rfl⟩) hP hD hS hA (by rw [List.map_append, List.map_append, b1, a1]) 0 11 rfl (get_appL f1) rfl hl.1 rfl rfl (Nat.le_of_ble_eq_true rfl) ⟨Nat.le_of_ble_eq_true rfl, Nat.le_of_ble_eq_true rfl⟩ dL_law_406 (fun H locs hP hD hS => ?_)
  refine lv_aload_n hx hb dL_law_409 rfl (lv_at hl 2 rfl) ?_
  refine law_arg (k := 1) C0 hL hS hl (by omega) (by decide) dL_law_410 dL_law_411 dL_law_412 dL_law_413 dL_law_414 ?_
  refine law_arg (k := 2) C0 hL hS hl (by omega) (by decide) dL_law_415 dL_law_416 dL_law_417 dL_law_418 dL_law_419 ?_
  refine law_arg (k := 3) C0 hL hS hl (by omega) (by decide) dL_law_420 dL_law_421 dL_law_422 dL_law_423 dL_law_424 ?_
  refine law_callV (As := [.int (xs (i + 1)), .int (xs (i + 2)), .int (xs (i + 3))]) (rest := [.int r1]) ⟨hx, hb, hml, hown, hts⟩ hC (hy1.right (X := X1)) (cwV 3 hts gl_X12_height rfl rfl rfl (by decide +kernel) ⟨Nat.le_of_ble_eq_true rfl, Nat.le_of_ble_eq_true rfl⟩) hP hD hS hA (by rw [List.map_append, List.map_append, b2, a2]) (X1.length + 0) 12 rfl (get_appR g1) rfl hl.1 rfl rfl (Nat.le_of_ble_eq_true rfl) ⟨Nat.le_of_ble_eq_true rfl, Nat.le_of_ble_eq_true rfl⟩ dL_law_425 (fun H locs hP hD hS => ?_)
  refine lv_icmp_eq (tgt := 1448) hx hb dL_law_428 (by decide) (fun _ => ?_) (fun z => ?_)
  · exact nx X1 Y1 H locs hI1 hP hD hS
  · exact absurd rfl z
set_option maxRecDepth 100000 in
set_option maxHeartbeats 4000000 in
theorem sg_book (C0 : lw_At p s m meth c b L xs) (hC : CX D cA s) (hL : L ≤ 384) (hi : i + 6 ≤ L) (hl : lv_has ls 4 [(0, .ref b), (1, .ref (q 0)), (2, .ref (mq 0)), (3, .int (nI i))]) (hI : Inv cA q r mq X Y) (hP : va_P D vwCl (X ++ Y) H) (hD : va_D (LA s) (X ++ Y)) (hS : va_S (LA s) s.heap H locs) (nx : Nx p l e s m below meth c D cA b q r mq ls) : W p l e room_1 s m #[Value.ref b] below meth c H locs 122 2965 (lw_Z below #[Value.ref b] s) (F0 m 433 ls []) := by
  obtain ⟨r1, X1, Y1, hx1, hy1, hI1⟩ := st_book l D hI (xs (i + 1)) (xs (i + 2)) (xs (i + 3)) (xs (i + 4)) (xs (i + 5))
  obtain ⟨⟨a1, a2⟩, ⟨fs, f1⟩, ⟨gs, g1⟩⟩ := hI.addr
  obtain ⟨⟨b1, b2⟩, -, -⟩ := hI1.addr
  obtain ⟨hx, hb, hr, hml, hown0, hts, hX, hbl, hlocks, hgv⟩ := id C0
  have hown : s.vm.findClass RL = some m.cls := hown0
  have hA : ∀ q : Nat, s.heap.size ≤ q → LA s q := fun _ h => h
  refine lv_aload_n hx hb dL_law_433 rfl (lv_at hl 1 rfl) ?_
  refine law_arg (k := 1) C0 hL hS hl (by omega) (by decide) dL_law_434 dL_law_435 dL_law_436 dL_law_437 dL_law_438 ?_
  refine law_arg (k := 2) C0 hL hS hl (by omega) (by decide) dL_law_439 dL_law_440 dL_law_441 dL_law_442 dL_law_443 ?_
  refine law_arg (k := 3) C0 hL hS hl (by omega) (by decide) dL_law_444 dL_law_445 dL_law_446 dL_law_447 dL_law_448 ?_
  refine law_arg (k := 4) C0 hL hS hl (by omega) (by decide) dL_law_449 dL_law_450 dL_law_451 dL_law_452 dL_law_453 ?_
  refine law_arg (k := 5) C0 hL hS hl (by omega) (by decide) dL_law_454 dL_law_455 dL_law_456 dL_law_457 dL_law_458 ?_
  refine law_callV (As := [.int (xs (i + 1)), .int (xs (i + 2)), .int (xs (i + 3)), .int (xs (i + 4)), .int (xs (i + 5))]) (rest := []) ⟨hx, hb, hml, hown, hts⟩ hC (hx1.left (Y := Y)) (cwV 5 hts gl_X11_book rfl rfl rfl (by decide +kernel) ⟨Nat.le_of_ble_eq_true rfl, Nat.le_of_ble_eq_true rfl⟩) hP hD hS hA (by rw [List.map_append, List.map_append, b1, a1]) 0 11 rfl (get_appL f1) rfl hl.1 rfl rfl (Nat.le_of_ble_eq_true rfl) ⟨Nat.le_of_ble_eq_true rfl, Nat.le_of_ble_eq_true rfl⟩ dL_law_459 (fun H locs hP hD hS => ?_)
  refine lv_aload_n hx hb dL_law_462 rfl (lv_at hl 2 rfl) ?_
  refine law_arg (k := 1) C0 hL hS hl (by omega) (by decide) dL_law_463 dL_law_464 dL_law_465 dL_law_466 dL_law_467 ?_
  refine law_arg (k := 2) C0 hL hS hl (by omega) (by decide) dL_law_468 dL_law_469 dL_law_470 dL_law_471 dL_law_472 ?_
  refine law_arg (k := 3) C0 hL hS hl (by omega) (by decide) dL_law_473 dL_law_474 dL_law_475 dL_law_476 dL_law_477 ?_
  refine law_arg (k := 4) C0 hL hS hl (by omega) (by decide) dL_law_478 dL_law_479 dL_law_480 dL_law_481 dL_law_482 ?_
  refine law_arg (k := 5) C0 hL hS hl (by omega) (by decide) dL_law_483 dL_law_484 dL_law_485 dL_law_486 dL_law_487 ?_
  refine law_callV (As := [.int (xs (i + 1)), .int (xs (i + 2)), .int (xs (i + 3)), .int (xs (i + 4)), .int (xs (i + 5))]) (rest := [.int r1]) ⟨hx, hb, hml, hown, hts⟩ hC (hy1.right (X := X1)) (cwV 5 hts gl_X12_book rfl rfl rfl (by decide +kernel) ⟨Nat.le_of_ble_eq_true rfl, Nat.le_of_ble_eq_true rfl⟩) hP hD hS hA (by rw [List.map_append, List.map_append, b2, a2]) (X1.length + 0) 12 rfl (get_appR g1) rfl hl.1 rfl rfl (Nat.le_of_ble_eq_true rfl) ⟨Nat.le_of_ble_eq_true rfl, Nat.le_of_ble_eq_true rfl⟩ dL_law_488 (fun H locs hP hD hS => ?_)
  refine lv_icmp_eq (tgt := 1448) hx hb dL_law_491 (by decide) (fun _ => ?_) (fun z => ?_)
  · exact nx X1 Y1 H locs hI1 hP hD hS
  · exact absurd rfl z
set_option maxRecDepth 100000 in
set_option maxHeartbeats 4000000 in
theorem sg_begins (C0 : lw_At p s m meth c b L xs) (hC : CX D cA s) (hL : L ≤ 384) (hi : i + 6 ≤ L) (hl : lv_has ls 4 [(0, .ref b), (1, .ref (q 0)), (2, .ref (mq 0)), (3, .int (nI i))]) (hI : Inv cA q r mq X Y) (hP : va_P D vwCl (X ++ Y) H) (hD : va_D (LA s) (X ++ Y)) (hS : va_S (LA s) s.heap H locs) (nx : Nx p l e s m below meth c D cA b q r mq ls) : W p l e room_1 s m #[Value.ref b] below meth c H locs 122 2965 (lw_Z below #[Value.ref b] s) (F0 m 496 ls []) := by
  obtain ⟨r1, X1, Y1, hx1, hy1, hI1⟩ := st_begins l D hI (xs (i + 1)) (xs (i + 2))
  obtain ⟨⟨a1, a2⟩, ⟨fs, f1⟩, ⟨gs, g1⟩⟩ := hI.addr
  obtain ⟨⟨b1, b2⟩, -, -⟩ := hI1.addr
  obtain ⟨hx, hb, hr, hml, hown0, hts, hX, hbl, hlocks, hgv⟩ := id C0
  have hown : s.vm.findClass RL = some m.cls := hown0
  have hA : ∀ q : Nat, s.heap.size ≤ q → LA s q := fun _ h => h
  refine lv_aload_n hx hb dL_law_496 rfl (lv_at hl 1 rfl) ?_
  refine law_arg (k := 1) C0 hL hS hl (by omega) (by decide) dL_law_497 dL_law_498 dL_law_499 dL_law_500 dL_law_501 ?_
  refine law_arg (k := 2) C0 hL hS hl (by omega) (by decide) dL_law_502 dL_law_503 dL_law_504 dL_law_505 dL_law_506 ?_
  refine law_callV (As := [.int (xs (i + 1)), .int (xs (i + 2))]) (rest := []) ⟨hx, hb, hml, hown, hts⟩ hC (hx1.left (Y := Y)) (cwV 2 hts gl_X11_begins rfl rfl rfl (by decide +kernel) ⟨Nat.le_of_ble_eq_true rfl, Nat.le_of_ble_eq_true rfl⟩) hP hD hS hA (by rw [List.map_append, List.map_append, b1, a1]) 0 11 rfl (get_appL f1) rfl hl.1 rfl rfl (Nat.le_of_ble_eq_true rfl) ⟨Nat.le_of_ble_eq_true rfl, Nat.le_of_ble_eq_true rfl⟩ dL_law_507 (fun H locs hP hD hS => ?_)
  refine lv_aload_n hx hb dL_law_510 rfl (lv_at hl 2 rfl) ?_
  refine law_arg (k := 1) C0 hL hS hl (by omega) (by decide) dL_law_511 dL_law_512 dL_law_513 dL_law_514 dL_law_515 ?_
  refine law_arg (k := 2) C0 hL hS hl (by omega) (by decide) dL_law_516 dL_law_517 dL_law_518 dL_law_519 dL_law_520 ?_
  refine law_callV (As := [.int (xs (i + 1)), .int (xs (i + 2))]) (rest := [.int r1]) ⟨hx, hb, hml, hown, hts⟩ hC (hy1.right (X := X1)) (cwV 2 hts gl_X12_begins rfl rfl rfl (by decide +kernel) ⟨Nat.le_of_ble_eq_true rfl, Nat.le_of_ble_eq_true rfl⟩) hP hD hS hA (by rw [List.map_append, List.map_append, b2, a2]) (X1.length + 0) 12 rfl (get_appR g1) rfl hl.1 rfl rfl (Nat.le_of_ble_eq_true rfl) ⟨Nat.le_of_ble_eq_true rfl, Nat.le_of_ble_eq_true rfl⟩ dL_law_521 (fun H locs hP hD hS => ?_)
  refine lv_icmp_eq (tgt := 1448) hx hb dL_law_524 (by decide) (fun _ => ?_) (fun z => ?_)
  · exact nx X1 Y1 H locs hI1 hP hD hS
  · exact absurd rfl z
set_option maxRecDepth 100000 in
set_option maxHeartbeats 4000000 in
theorem sg_ways (C0 : lw_At p s m meth c b L xs) (hC : CX D cA s) (hL : L ≤ 384) (hi : i + 6 ≤ L) (hl : lv_has ls 4 [(0, .ref b), (1, .ref (q 0)), (2, .ref (mq 0)), (3, .int (nI i))]) (hI : Inv cA q r mq X Y) (hP : va_P D vwCl (X ++ Y) H) (hD : va_D (LA s) (X ++ Y)) (hS : va_S (LA s) s.heap H locs) (nx : Nx p l e s m below meth c D cA b q r mq ls) : W p l e room_1 s m #[Value.ref b] below meth c H locs 122 2965 (lw_Z below #[Value.ref b] s) (F0 m 529 ls []) := by
  obtain ⟨r1, X1, Y1, hx1, hy1, hI1⟩ := st_ways l D hI (xs (i + 1))
  obtain ⟨⟨a1, a2⟩, ⟨fs, f1⟩, ⟨gs, g1⟩⟩ := hI.addr
  obtain ⟨⟨b1, b2⟩, -, -⟩ := hI1.addr
  obtain ⟨hx, hb, hr, hml, hown0, hts, hX, hbl, hlocks, hgv⟩ := id C0
  have hown : s.vm.findClass RL = some m.cls := hown0
  have hA : ∀ q : Nat, s.heap.size ≤ q → LA s q := fun _ h => h
  refine lv_aload_n hx hb dL_law_529 rfl (lv_at hl 1 rfl) ?_
  refine law_arg (k := 1) C0 hL hS hl (by omega) (by decide) dL_law_530 dL_law_531 dL_law_532 dL_law_533 dL_law_534 ?_
  refine law_callV (As := [.int (xs (i + 1))]) (rest := []) ⟨hx, hb, hml, hown, hts⟩ hC (hx1.left (Y := Y)) (cwV 1 hts gl_X11_ways rfl rfl rfl (by decide +kernel) ⟨Nat.le_of_ble_eq_true rfl, Nat.le_of_ble_eq_true rfl⟩) hP hD hS hA (by rw [List.map_append, List.map_append, b1, a1]) 0 11 rfl (get_appL f1) rfl hl.1 rfl rfl (Nat.le_of_ble_eq_true rfl) ⟨Nat.le_of_ble_eq_true rfl, Nat.le_of_ble_eq_true rfl⟩ dL_law_535 (fun H locs hP hD hS => ?_)
  refine lv_aload_n hx hb dL_law_538 rfl (lv_at hl 2 rfl) ?_
  refine law_arg (k := 1) C0 hL hS hl (by omega) (by decide) dL_law_539 dL_law_540 dL_law_541 dL_law_542 dL_law_543 ?_
  refine law_callV (As := [.int (xs (i + 1))]) (rest := [.int r1]) ⟨hx, hb, hml, hown, hts⟩ hC (hy1.right (X := X1)) (cwV 1 hts gl_X12_ways rfl rfl rfl (by decide +kernel) ⟨Nat.le_of_ble_eq_true rfl, Nat.le_of_ble_eq_true rfl⟩) hP hD hS hA (by rw [List.map_append, List.map_append, b2, a2]) (X1.length + 0) 12 rfl (get_appR g1) rfl hl.1 rfl rfl (Nat.le_of_ble_eq_true rfl) ⟨Nat.le_of_ble_eq_true rfl, Nat.le_of_ble_eq_true rfl⟩ dL_law_544 (fun H locs hP hD hS => ?_)
  refine lv_icmp_eq (tgt := 1448) hx hb dL_law_547 (by decide) (fun _ => ?_) (fun z => ?_)
  · exact nx X1 Y1 H locs hI1 hP hD hS
  · exact absurd rfl z
set_option maxRecDepth 100000 in
set_option maxHeartbeats 4000000 in
theorem sg_whence (C0 : lw_At p s m meth c b L xs) (hC : CX D cA s) (hL : L ≤ 384) (hi : i + 6 ≤ L) (hl : lv_has ls 4 [(0, .ref b), (1, .ref (q 0)), (2, .ref (mq 0)), (3, .int (nI i))]) (hI : Inv cA q r mq X Y) (hP : va_P D vwCl (X ++ Y) H) (hD : va_D (LA s) (X ++ Y)) (hS : va_S (LA s) s.heap H locs) (nx : Nx p l e s m below meth c D cA b q r mq ls) : W p l e room_1 s m #[Value.ref b] below meth c H locs 122 2965 (lw_Z below #[Value.ref b] s) (F0 m 552 ls []) := by
  obtain ⟨r1, X1, Y1, hx1, hy1, hI1⟩ := st_whence l D hI (xs (i + 1))
  obtain ⟨⟨a1, a2⟩, ⟨fs, f1⟩, ⟨gs, g1⟩⟩ := hI.addr
  obtain ⟨⟨b1, b2⟩, -, -⟩ := hI1.addr
  obtain ⟨hx, hb, hr, hml, hown0, hts, hX, hbl, hlocks, hgv⟩ := id C0
  have hown : s.vm.findClass RL = some m.cls := hown0
  have hA : ∀ q : Nat, s.heap.size ≤ q → LA s q := fun _ h => h
  refine lv_aload_n hx hb dL_law_552 rfl (lv_at hl 1 rfl) ?_
  refine law_arg (k := 1) C0 hL hS hl (by omega) (by decide) dL_law_553 dL_law_554 dL_law_555 dL_law_556 dL_law_557 ?_
  refine law_callV (As := [.int (xs (i + 1))]) (rest := []) ⟨hx, hb, hml, hown, hts⟩ hC (hx1.left (Y := Y)) (cwV 1 hts gl_X11_whence rfl rfl rfl (by decide +kernel) ⟨Nat.le_of_ble_eq_true rfl, Nat.le_of_ble_eq_true rfl⟩) hP hD hS hA (by rw [List.map_append, List.map_append, b1, a1]) 0 11 rfl (get_appL f1) rfl hl.1 rfl rfl (Nat.le_of_ble_eq_true rfl) ⟨Nat.le_of_ble_eq_true rfl, Nat.le_of_ble_eq_true rfl⟩ dL_law_558 (fun H locs hP hD hS => ?_)
  refine lv_aload_n hx hb dL_law_561 rfl (lv_at hl 2 rfl) ?_
  refine law_arg (k := 1) C0 hL hS hl (by omega) (by decide) dL_law_562 dL_law_563 dL_law_564 dL_law_565 dL_law_566 ?_
  refine law_callV (As := [.int (xs (i + 1))]) (rest := [.int r1]) ⟨hx, hb, hml, hown, hts⟩ hC (hy1.right (X := X1)) (cwV 1 hts gl_X12_whence rfl rfl rfl (by decide +kernel) ⟨Nat.le_of_ble_eq_true rfl, Nat.le_of_ble_eq_true rfl⟩) hP hD hS hA (by rw [List.map_append, List.map_append, b2, a2]) (X1.length + 0) 12 rfl (get_appR g1) rfl hl.1 rfl rfl (Nat.le_of_ble_eq_true rfl) ⟨Nat.le_of_ble_eq_true rfl, Nat.le_of_ble_eq_true rfl⟩ dL_law_567 (fun H locs hP hD hS => ?_)
  refine lv_icmp_eq (tgt := 1448) hx hb dL_law_570 (by decide) (fun _ => ?_) (fun z => ?_)
  · exact nx X1 Y1 H locs hI1 hP hD hS
  · exact absurd rfl z
end CASES
