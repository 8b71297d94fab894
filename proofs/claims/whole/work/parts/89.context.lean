theorem memIn_r {big : List Cond} (ws : List Cond) (ps : List Nat) (hp : ws = ps.filterMap (fun i => big[i]?)) : ∀ w ∈ ws, w ∈ big := by
  intro w hw
  rw [hp] at hw
  obtain ⟨i, -, hi⟩ := List.mem_filterMap.mp hw
  exact List.mem_of_getElem? hi
set_option maxRecDepth 20000 in
theorem inT_X0 : ∀ w ∈ u_ws RX0 TX0 6, w ∈ lw_tbl := memIn_r _ [149, 151, 153, 155, 157, 159] (by decide +kernel)
set_option maxRecDepth 20000 in
theorem inT_X1 : ∀ w ∈ u_ws RX1 TX1 3, w ∈ lw_tbl := memIn_r _ [288, 290, 292] (by decide +kernel)
set_option maxRecDepth 20000 in
theorem inT_X2 : ∀ w ∈ u_ws RX2 TX2 6, w ∈ lw_tbl := memIn_r _ [213, 215, 217, 219, 221, 223] (by decide +kernel)
set_option maxRecDepth 20000 in
theorem inT_X3 : ∀ w ∈ u_ws RX3 TX3 2, w ∈ lw_tbl := memIn_r _ [194, 196] (by decide +kernel)
set_option maxRecDepth 20000 in
theorem inT_X4 : ∀ w ∈ u_ws RX4 TX4 5, w ∈ lw_tbl := memIn_r _ [81, 83, 85, 87, 89] (by decide +kernel)
set_option maxRecDepth 20000 in
theorem inT_X5 : ∀ w ∈ u_ws RX5 TX5 3, w ∈ lw_tbl := memIn_r _ [238, 240, 242] (by decide +kernel)
set_option maxRecDepth 20000 in
theorem inT_X6 : ∀ w ∈ u_ws RX6 TX6 4, w ∈ lw_tbl := memIn_r _ [176, 178, 180, 182] (by decide +kernel)
set_option maxRecDepth 20000 in
theorem inT_X7 : ∀ w ∈ u_ws RX7 TX7 2, w ∈ lw_tbl := memIn_r _ [272, 274] (by decide +kernel)
set_option maxRecDepth 20000 in
theorem inT_X8 : ∀ w ∈ u_ws RX8 TX8 3, w ∈ lw_tbl := memIn_r _ [256, 258, 260] (by decide +kernel)
set_option maxRecDepth 20000 in
theorem inT_X9 : ∀ w ∈ u_ws RX9 TX9 2, w ∈ lw_tbl := memIn_r _ [61, 63] (by decide +kernel)
set_option maxRecDepth 20000 in
theorem inT_X10 : ∀ w ∈ u_ws RX10 TX10 6, w ∈ lw_tbl := memIn_r _ [110, 112, 114, 116, 118, 120] (by decide +kernel)
set_option maxRecDepth 20000 in
theorem inT_X11 : ∀ w ∈ u_ws RX11 TX11 11, w ∈ lw_tbl := memIn_r _ [306, 308, 310, 312, 314, 316, 318, 320, 322, 324, 326] (by decide +kernel)
set_option maxRecDepth 20000 in
theorem inT_X12 : ∀ w ∈ u_ws RX12 TX12 29, w ∈ lw_tbl := memIn_r _ [960, 962, 964, 966, 968, 970, 972, 974, 976, 978, 980, 982, 984, 986, 988, 990, 992, 994, 996, 998, 1000, 1002, 1004, 1006, 1008, 1010, 1012, 1014, 1016] (by decide +kernel)
set_option maxRecDepth 20000 in
theorem inT_nwl : ∀ w ∈ nwl, w ∈ lw_tbl := memIn_r _ [58, 59, 60, 74, 78, 80, 104, 106, 108, 136, 138, 140, 142, 144, 146, 147, 148, 169, 171, 173, 175, 193, 200, 201, 203, 204, 206, 208, 209, 211, 212, 254, 271, 287, 52, 69, 95, 125, 131, 164, 187, 279, 429, 545, 619, 693, 756, 797] (by decide +kernel)
theorem nestW_on {w : Cond} (h : nestW w = true) : w.onTables = true := by
  cases w <;> first | rfl | cases h
set_option maxRecDepth 100000 in
set_option maxHeartbeats 4000000 in
/-- what the tables say at the law's entry -/
theorem law_ctx {s : State} {args : Array Value} (hts : ∀ w ∈ lw_tbl, w.before args s = true) : ∃ (D : va_G) (cA : Nat → ClassId), CXI D cA s := by
  obtain ⟨c0, i0, k0⟩ := u_known (C := RX0) (T := TX0) (N := 6) (n := 6) hts inT_X0 (hts (.instantiable RX0 6) (List.mem_of_getElem? (i := 130) (by decide +kernel)))
  obtain ⟨c1, i1, k1⟩ := u_known (C := RX1) (T := TX1) (N := 3) (n := 3) hts inT_X1 (hts (.instantiable RX1 3) (List.mem_of_getElem? (i := 278) (by decide +kernel)))
  obtain ⟨c2, i2, k2⟩ := u_known (C := RX2) (T := TX2) (N := 6) (n := 6) hts inT_X2 (hts (.instantiable RX2 6) (List.mem_of_getElem? (i := 124) (by decide +kernel)))
  obtain ⟨c3, i3, k3⟩ := u_known (C := RX3) (T := TX3) (N := 2) (n := 2) hts inT_X3 (hts (.instantiable RX3 2) (List.mem_of_getElem? (i := 186) (by decide +kernel)))
  obtain ⟨c4, i4, k4⟩ := u_known (C := RX4) (T := TX4) (N := 5) (n := 5) hts inT_X4 (hts (.instantiable RX4 5) (List.mem_of_getElem? (i := 68) (by decide +kernel)))
  obtain ⟨c5, i5, k5⟩ := u_known (C := RX5) (T := TX5) (N := 3) (n := 3) hts inT_X5 (hts (.instantiable RX5 3) (List.mem_of_getElem? (i := 229) (by decide +kernel)))
  obtain ⟨c6, i6, k6⟩ := u_known (C := RX6) (T := TX6) (N := 4) (n := 4) hts inT_X6 (hts (.instantiable RX6 4) (List.mem_of_getElem? (i := 163) (by decide +kernel)))
  obtain ⟨c7, i7, k7⟩ := u_known (C := RX7) (T := TX7) (N := 2) (n := 2) hts inT_X7 (hts (.instantiable RX7 2) (List.mem_of_getElem? (i := 264) (by decide +kernel)))
  obtain ⟨c8, i8, k8⟩ := u_known (C := RX8) (T := TX8) (N := 3) (n := 3) hts inT_X8 (hts (.instantiable RX8 3) (List.mem_of_getElem? (i := 246) (by decide +kernel)))
  obtain ⟨c9, i9, k9⟩ := u_known (C := RX9) (T := TX9) (N := 2) (n := 2) hts inT_X9 (hts (.instantiable RX9 2) (List.mem_of_getElem? (i := 51) (by decide +kernel)))
  obtain ⟨c10, i10, k10⟩ := u_known (C := RX10) (T := TX10) (N := 6) (n := 6) hts inT_X10 (hts (.instantiable RX10 6) (List.mem_of_getElem? (i := 94) (by decide +kernel)))
  obtain ⟨c11, i11, k11⟩ := u_known (C := RX11) (T := TX11) (N := 11) (n := 11) hts inT_X11 (hts (.instantiable RX11 11) (List.mem_of_getElem? (i := 43) (by decide +kernel)))
  obtain ⟨c12, i12, k12⟩ := u_known (C := RX12) (T := TX12) (N := 29) (n := 29) hts inT_X12 (hts (.instantiable RX12 29) (List.mem_of_getElem? (i := 926) (by decide +kernel)))
  obtain ⟨a0, b0, d0, p0, q0, r0⟩ := Cond.arrayClass_spec (hts (.arrayClass .byte) (List.mem_of_getElem? (i := 66) (by decide +kernel)))
  obtain ⟨a1, b1, d1, p1, q1, r1⟩ := Cond.arrayClass_spec (hts (.arrayClass .int) (List.mem_of_getElem? (i := 92) (by decide +kernel)))
  obtain ⟨a2, b2, d2, p2, q2, r2⟩ := Cond.arrayClass_spec (hts (.arrayClass .long) (List.mem_of_getElem? (i := 226) (by decide +kernel)))
  obtain ⟨a3, b3, d3, p3, q3, r3⟩ := Cond.arrayClass_spec (hts (.arrayClass .boolean) (List.mem_of_getElem? (i := 1019) (by decide +kernel)))
  have w4 := hts (.arrayOver (.object "OrphanWave$Findings")) (List.mem_of_getElem? (i := 227) (by decide +kernel))
  have w5 := hts (.arrayOver (.array .int)) (List.mem_of_getElem? (i := 100) (by decide +kernel))
  obtain ⟨d4, a4, b4, o1, -, o3, o4, o5⟩ := Cond.arrayOver_spec w4
  obtain ⟨d5, a5, b5, x1, -, x3, x4, x5⟩ := arrayOverA_spec w5
  refine ⟨(fun k => [c0, c1, c2, c3, c4, c5, c6, c7, c8, c9, c10, c11, c12].getD k c0, fun k => [i0, i1, i2, i3, i4, i5, i6, i7, i8, i9, i10, i11, i12].getD k i0), fun k => [a0, a1, a2, a3, a4, a5].getD k a0, ⟨⟨?_, ?_⟩, fun w hw => va_Nw.of (nestW_on (List.all_eq_true.mp nwl_nest w hw)) (hts w (inT_nwl w hw))⟩, va_AO.of w4, w5⟩
  · intro k q hq
    match k, hq with
    | 0, hq => cases hq; exact k0
    | 1, hq => cases hq; exact k1
    | 2, hq => cases hq; exact k2
    | 3, hq => cases hq; exact k3
    | 4, hq => cases hq; exact k4
    | 5, hq => cases hq; exact k5
    | 6, hq => cases hq; exact k6
    | 7, hq => cases hq; exact k7
    | 8, hq => cases hq; exact k8
    | 9, hq => cases hq; exact k9
    | 10, hq => cases hq; exact k10
    | 11, hq => cases hq; exact k11
    | 12, hq => cases hq; exact k12
    | k + 13, hq => first | cases hq | simp [vwCl] at hq
  · intro k q hq
    match k, hq with
    | 0, hq => cases hq; exact ⟨fun n z => ⟨fun k h => (by cases h), b0, q0, d0, r0⟩, p0⟩
    | 1, hq => cases hq; exact ⟨fun n z => ⟨fun k h => (by cases h), b1, q1, d1, r1⟩, p1⟩
    | 2, hq => cases hq; exact ⟨fun n z => ⟨fun k h => (by cases h), b2, q2, d2, r2⟩, p2⟩
    | 3, hq => cases hq; exact ⟨fun n z => ⟨fun k h => (by cases h), b3, q3, d3, r3⟩, p3⟩
    | 4, hq => cases hq; exact ⟨fun n z => ⟨fun k h => (by cases h), b4, o3, d4, o4⟩, b4, d4, o3, o4, o1, o5⟩
    | 5, hq => cases hq; exact ⟨fun n z => ⟨fun k h => (by cases h), b5, x3, d5, x4⟩, x5⟩
    | k + 6, hq => first | cases hq | simp [TYL] at hq
