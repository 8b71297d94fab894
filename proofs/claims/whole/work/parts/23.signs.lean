/-! ===== OrphanWave$Signs.asSign(I)I ===== -/
abbrev rm_X7_asSign : Room := { frames := 0, cells := 0, slots := 0, locals := 0 }
abbrev w_X7_asSign (a0 : Nat) (q_found : Nat) (q_found_sheets : Nat) (q_found_sheets_marshes : Nat) (q_found_books : Nat) (q_found_known : Nat) (q_found_weights : Nat) (q_found_sheets_olds : Nat) (q_found_sheets_youngs : Nat) (cA : Nat → ClassId) (s_trace : Int64) (s_found_dugMarshes : Int32) (s_found_kept : Int32) (s_found_sheets_count : Int32) (s_found_sheets_marshes : Nat → Int32) : va_W := [(a0, .inr (7, [.ref q_found, .long s_trace])), (q_found, .inr (2, [.ref q_found_books, .ref q_found_sheets, .ref q_found_known, .ref q_found_weights, .int s_found_dugMarshes, .int s_found_kept])), (q_found_sheets, .inr (6, [.ref q_found_sheets_marshes, .ref q_found_sheets_olds, .ref q_found_sheets_youngs, .int s_found_sheets_count])), (q_found_sheets_marshes, .inl (cA 1, 12, .inl s_found_sheets_marshes))]
theorem hn_X7_asSign_X7 : ∀ w ∈ u_ws RX7 TX7 2, w ∈ wsX7_asSign := by decide +kernel
theorem hn_X7_asSign_X2 : ∀ w ∈ u_ws RX2 TX2 6, w ∈ wsX7_asSign := by decide +kernel
theorem hn_X7_asSign_X6 : ∀ w ∈ u_ws RX6 TX6 4, w ∈ wsX7_asSign := by decide +kernel
theorem hw_X7_asSign_f13 : Cond.fieldLink RX7 13 "OrphanWave$Signs" "trace" "J" ∈ wsX7_asSign := by decide +kernel
theorem hw_X7_asSign_f7 : Cond.fieldLink RX7 7 "OrphanWave$Signs" "found" "LOrphanWave$Findings;" ∈ wsX7_asSign := by decide +kernel

def f_X7_asSign (x1 : Int32) (s_trace : Int64) (s_found_sheets_marshes : Nat → Int32) : Option ((Int32) × (Int64)) :=
  plt ((s_trace + (1 : Int64)) : Int64) (fun trace_1 => (
  pgd (pin x1 12) (
  some (((s_found_sheets_marshes x1.toNatClampNeg) + (1 : Int32)), trace_1))))

set_option maxRecDepth 100000 in
set_option maxHeartbeats 4000000 in
theorem ct_X7_asSign (l : Launch) (D : va_G) (cA : Nat → ClassId) (x1 : Int32) (a0 : Nat) (q_found : Nat) (q_found_sheets : Nat) (q_found_sheets_marshes : Nat) (q_found_books : Nat) (q_found_known : Nat) (q_found_weights : Nat) (q_found_sheets_olds : Nat) (q_found_sheets_youngs : Nat) (s_trace : Int64) (s_found_dugMarshes : Int32) (s_found_kept : Int32) (s_found_sheets_count : Int32) (s_found_sheets_marshes : Nat → Int32) (o_r : Int32) (o_trace : Int64) (hf : f_X7_asSign x1 s_trace s_found_sheets_marshes = some (o_r, o_trace)) : CT l yX7_asSign wsX7_asSign rm_X7_asSign D cA [.ref a0, .int x1] (w_X7_asSign a0 q_found q_found_sheets q_found_sheets_marshes q_found_books q_found_known q_found_weights q_found_sheets_olds q_found_sheets_youngs cA s_trace s_found_dugMarshes s_found_kept s_found_sheets_count s_found_sheets_marshes) (w_X7_asSign a0 q_found q_found_sheets q_found_sheets_marshes q_found_books q_found_known q_found_weights q_found_sheets_olds q_found_sheets_youngs cA o_trace s_found_dugMarshes s_found_kept s_found_sheets_count s_found_sheets_marshes) (some (.int o_r)) := by
  refine CT.ofW (cc := cX7_asSign) (maxL := 2) (ret := (some .int)) (by decide +kernel) rfl (Nat.le_of_ble_eq_true rfl) ?_
  intro p e s m below meth c A C0 hA hP hD ls hl
  have C0 : MX p s m [.ref a0, .int x1].toArray meth c cX7_asSign 2 wsX7_asSign RX7 (some .int) D cA := C0
  have hl : lv_has ls 2 [(0, .ref a0), (1, .int x1)] := hl
  obtain ⟨hx, hb, hml, hown, hts, hr, hlocks, hX⟩ := id C0
  have hK := hX.1
  have hN := hX.2
  have hS : va_S A s.heap s.heap [] := va_S.rf
  unfold f_X7_asSign at hf
  refine lv_aload_n hx hb dX7_asSign_0 rfl (lv_at hl 0 rfl) ?_
  refine lv_dup hx hb dX7_asSign_1 rfl ?_
  refine va_get (D := D) (ci := 7) (v := .long s_trace) (C := RX7) (T := TX7) (N := 2) hx hb hts hn_X7_asSign_X7 hown hK hP 0 rfl rfl 1 (by decide) (hts _ hw_X7_asSign_f13) (fun _ h9 => h9) rfl dX7_asSign_2 ?_
  refine lv_lconst (v := (1 : Int64)) hx hb dX7_asSign_5 (by decide) ?_
  refine lv_ladd hx hb dX7_asSign_6 ?_
  refine lv_topl (fun trace_1 etrace_1 => ?_)
  have hf := plt_e etrace_1 hf
  refine va_put (D := D) (ci := 7) (v := .long trace_1) (ty := .long) (C := RX7) (T := TX7) (N := 2) hx hb hts hn_X7_asSign_X7 tyX7 tyX7_ok nmX7 hown hK hP hD hS 0 rfl rfl 1 (by decide) (hts _ hw_X7_asSign_f13) (fun _ h9 => h9) rfl (by decide +kernel) rfl rfl (Nat.le_of_ble_eq_true rfl) dX7_asSign_7 (fun H locs hP hD hS => ?_)
  have hP : va_P D vwCl (w_X7_asSign a0 q_found q_found_sheets q_found_sheets_marshes q_found_books q_found_known q_found_weights q_found_sheets_olds q_found_sheets_youngs cA trace_1 s_found_dugMarshes s_found_kept s_found_sheets_count s_found_sheets_marshes) H := hP
  have hD : va_D A (w_X7_asSign a0 q_found q_found_sheets q_found_sheets_marshes q_found_books q_found_known q_found_weights q_found_sheets_olds q_found_sheets_youngs cA trace_1 s_found_dugMarshes s_found_kept s_found_sheets_count s_found_sheets_marshes) := hD
  refine lv_aload_n hx hb dX7_asSign_10 rfl (lv_at hl 0 rfl) ?_
  refine va_get (D := D) (ci := 7) (v := .ref q_found) (C := RX7) (T := TX7) (N := 2) hx hb hts hn_X7_asSign_X7 hown hK hP 0 rfl rfl 0 (by decide) (hts _ hw_X7_asSign_f7) (fun _ h9 => h9) rfl dX7_asSign_11 ?_
  refine va_getN (D := D) (ci := 2) (v := .ref q_found_sheets) (C := RX2) (T := TX2) (N := 6) hx hb hts hn_X7_asSign_X2 hown hK hP 1 rfl rfl 1 (by decide) (va_Nw.use rfl (hN _ nw_X7_17)) (fun _ h9 => h9) rfl dX7_asSign_14 ?_
  refine va_getN (D := D) (ci := 6) (v := .ref q_found_sheets_marshes) (C := RX6) (T := TX6) (N := 4) hx hb hts hn_X7_asSign_X6 hown hK hP 2 rfl rfl 0 (by decide) (va_Nw.use rfl (hN _ nw_X7_23)) (fun _ h9 => h9) rfl dX7_asSign_17 ?_
  refine lv_iload_n hx hb dX7_asSign_20 rfl (lv_at hl 1 rfl) ?_
  obtain ⟨g_2, hf⟩ := pgd_e hf
  refine va_iald hx hb hK hP 3 1 rfl rfl g_2 dX7_asSign_21 ?_
  refine lv_iconst (v := (1 : Int32)) hx hb dX7_asSign_22 (by decide) ?_
  refine lv_iadd hx hb dX7_asSign_23 ?_
  obtain ⟨rfl, rfl⟩ := pe2 hf
  exact m_iret hx hb hr hlocks hP hS dX7_asSign_24

/-! ===== OrphanWave$Signs.asSheet(I)I ===== -/
abbrev rm_X7_asSheet : Room := { frames := 1, cells := 0, slots := 0, locals := 23 }
abbrev w_X7_asSheet (a0 : Nat) (q_found : Nat) (q_found_sheets : Nat) (q_found_sheets_marshes : Nat) (q_found_sheets_olds : Nat) (q_found_sheets_youngs : Nat) (q_found_books : Nat) (q_found_known : Nat) (q_found_weights : Nat) (cA : Nat → ClassId) (s_trace : Int64) (s_found_dugMarshes : Int32) (s_found_kept : Int32) (s_found_sheets_count : Int32) (s_found_sheets_marshes : Nat → Int32) (s_found_sheets_olds : Nat → Int32) (s_found_sheets_youngs : Nat → Int32) : va_W := [(a0, .inr (7, [.ref q_found, .long s_trace])), (q_found, .inr (2, [.ref q_found_books, .ref q_found_sheets, .ref q_found_known, .ref q_found_weights, .int s_found_dugMarshes, .int s_found_kept])), (q_found_sheets, .inr (6, [.ref q_found_sheets_marshes, .ref q_found_sheets_olds, .ref q_found_sheets_youngs, .int s_found_sheets_count])), (q_found_sheets_marshes, .inl (cA 1, 12, .inl s_found_sheets_marshes)), (q_found_sheets_olds, .inl (cA 1, 12, .inl s_found_sheets_olds)), (q_found_sheets_youngs, .inl (cA 1, 12, .inl s_found_sheets_youngs))]
theorem hn_X7_asSheet_X7 : ∀ w ∈ u_ws RX7 TX7 2, w ∈ wsX7_asSheet := by decide +kernel
theorem hn_X7_asSheet_X2 : ∀ w ∈ u_ws RX2 TX2 6, w ∈ wsX7_asSheet := by decide +kernel
theorem hw_X7_asSheet_f13 : Cond.fieldLink RX7 13 "OrphanWave$Signs" "trace" "J" ∈ wsX7_asSheet := by decide +kernel
theorem hw_X7_asSheet_c29 : Cond.constantLong RX7 29 (10) ∈ wsX7_asSheet := by decide +kernel
theorem hw_X7_asSheet_f7 : Cond.fieldLink RX7 7 "OrphanWave$Signs" "found" "LOrphanWave$Findings;" ∈ wsX7_asSheet := by decide +kernel

def f_X7_asSheet (x1 : Int32) (s_trace : Int64) (s_found_sheets_count : Int32) (s_found_sheets_marshes : Nat → Int32) (s_found_sheets_olds : Nat → Int32) (s_found_sheets_youngs : Nat → Int32) : Option ((Int32) × (Int64)) :=
  plt ((s_trace + (10 : Int64)) : Int64) (fun trace_1 => (
  pcl (f_X7_asSign x1 trace_1 s_found_sheets_marshes) (fun (r_2, trace_3) => (
  pcl (f_X6_companions x1 s_found_sheets_count s_found_sheets_olds s_found_sheets_youngs) (fun r_5 => (
  some ((r_2 + r_5), trace_3)))))))

set_option maxRecDepth 100000 in
set_option maxHeartbeats 4000000 in
theorem ct_X7_asSheet (l : Launch) (D : va_G) (cA : Nat → ClassId) (x1 : Int32) (a0 : Nat) (q_found : Nat) (q_found_sheets : Nat) (q_found_sheets_marshes : Nat) (q_found_sheets_olds : Nat) (q_found_sheets_youngs : Nat) (q_found_books : Nat) (q_found_known : Nat) (q_found_weights : Nat) (s_trace : Int64) (s_found_dugMarshes : Int32) (s_found_kept : Int32) (s_found_sheets_count : Int32) (s_found_sheets_marshes : Nat → Int32) (s_found_sheets_olds : Nat → Int32) (s_found_sheets_youngs : Nat → Int32) (o_r : Int32) (o_trace : Int64) (hf : f_X7_asSheet x1 s_trace s_found_sheets_count s_found_sheets_marshes s_found_sheets_olds s_found_sheets_youngs = some (o_r, o_trace)) : CT l yX7_asSheet wsX7_asSheet rm_X7_asSheet D cA [.ref a0, .int x1] (w_X7_asSheet a0 q_found q_found_sheets q_found_sheets_marshes q_found_sheets_olds q_found_sheets_youngs q_found_books q_found_known q_found_weights cA s_trace s_found_dugMarshes s_found_kept s_found_sheets_count s_found_sheets_marshes s_found_sheets_olds s_found_sheets_youngs) (w_X7_asSheet a0 q_found q_found_sheets q_found_sheets_marshes q_found_sheets_olds q_found_sheets_youngs q_found_books q_found_known q_found_weights cA o_trace s_found_dugMarshes s_found_kept s_found_sheets_count s_found_sheets_marshes s_found_sheets_olds s_found_sheets_youngs) (some (.int o_r)) := by
  refine CT.ofW (cc := cX7_asSheet) (maxL := 2) (ret := (some .int)) (by decide +kernel) rfl (Nat.le_of_ble_eq_true rfl) ?_
  intro p e s m below meth c A C0 hA hP hD ls hl
  have C0 : MX p s m [.ref a0, .int x1].toArray meth c cX7_asSheet 2 wsX7_asSheet RX7 (some .int) D cA := C0
  have hl : lv_has ls 2 [(0, .ref a0), (1, .int x1)] := hl
  obtain ⟨hx, hb, hml, hown, hts, hr, hlocks, hX⟩ := id C0
  have hK := hX.1
  have hN := hX.2
  have hS : va_S A s.heap s.heap [] := va_S.rf
  unfold f_X7_asSheet at hf
  refine lv_aload_n hx hb dX7_asSheet_0 rfl (lv_at hl 0 rfl) ?_
  refine lv_dup hx hb dX7_asSheet_1 rfl ?_
  refine va_get (D := D) (ci := 7) (v := .long s_trace) (C := RX7) (T := TX7) (N := 2) hx hb hts hn_X7_asSheet_X7 hown hK hP 0 rfl rfl 1 (by decide) (hts _ hw_X7_asSheet_f13) (fun _ h9 => h9) rfl dX7_asSheet_2 ?_
  refine lv_ldc2 (v := (10 : Int64)) hx hb hown (hts _ hw_X7_asSheet_c29) dX7_asSheet_5 ?_
  refine lv_ladd hx hb dX7_asSheet_8 ?_
  refine lv_topl (fun trace_1 etrace_1 => ?_)
  have hf := plt_e etrace_1 hf
  refine va_put (D := D) (ci := 7) (v := .long trace_1) (ty := .long) (C := RX7) (T := TX7) (N := 2) hx hb hts hn_X7_asSheet_X7 tyX7 tyX7_ok nmX7 hown hK hP hD hS 0 rfl rfl 1 (by decide) (hts _ hw_X7_asSheet_f13) (fun _ h9 => h9) rfl (by decide +kernel) rfl rfl (Nat.le_of_ble_eq_true rfl) dX7_asSheet_9 (fun H locs hP hD hS => ?_)
  have hP : va_P D vwCl (w_X7_asSheet a0 q_found q_found_sheets q_found_sheets_marshes q_found_sheets_olds q_found_sheets_youngs q_found_books q_found_known q_found_weights cA trace_1 s_found_dugMarshes s_found_kept s_found_sheets_count s_found_sheets_marshes s_found_sheets_olds s_found_sheets_youngs) H := hP
  have hD : va_D A (w_X7_asSheet a0 q_found q_found_sheets q_found_sheets_marshes q_found_sheets_olds q_found_sheets_youngs q_found_books q_found_known q_found_weights cA trace_1 s_found_dugMarshes s_found_kept s_found_sheets_count s_found_sheets_marshes s_found_sheets_olds s_found_sheets_youngs) := hD
  refine lv_aload_n hx hb dX7_asSheet_12 rfl (lv_at hl 0 rfl) ?_
  refine lv_iload_n hx hb dX7_asSheet_13 rfl (lv_at hl 1 rfl) ?_
  obtain ⟨⟨r_2, trace_3⟩, hc_4, hf⟩ := pcl_e hf
  refine m_callV2 (As := [.int x1]) (rest := []) ⟨hx, hb, hml, hown, hts⟩ hX (ct_X7_asSign l D cA x1 a0 q_found q_found_sheets q_found_sheets_marshes q_found_books q_found_known q_found_weights q_found_sheets_olds q_found_sheets_youngs trace_1 s_found_dugMarshes s_found_kept s_found_sheets_count s_found_sheets_marshes r_2 trace_3 hc_4) (cwV 1 hts gX7_asSheet_X7_asSign rfl rfl rfl (by decide +kernel) ⟨Nat.le_of_ble_eq_true rfl, Nat.le_of_ble_eq_true rfl⟩) hP hD hS hA [0, 1, 2, 3] [4, 5] 6 (by decide) rfl rfl (WS' := (w_X7_asSheet a0 q_found q_found_sheets q_found_sheets_marshes q_found_sheets_olds q_found_sheets_youngs q_found_books q_found_known q_found_weights cA trace_3 s_found_dugMarshes s_found_kept s_found_sheets_count s_found_sheets_marshes s_found_sheets_olds s_found_sheets_youngs)) (WR := [(q_found_sheets_olds, .inl (cA 1, 12, .inl s_found_sheets_olds)), (q_found_sheets_youngs, .inl (cA 1, 12, .inl s_found_sheets_youngs))]) rfl rfl rfl rfl (by decide) (by decide) 0 7 rfl rfl rfl hl.1 rfl (st' := [.int r_2]) rfl (Nat.le_of_ble_eq_true rfl) ⟨Nat.zero_le _, Nat.zero_le _⟩ dX7_asSheet_14 (fun H locs hP hD hS => ?_)
  refine lv_aload_n hx hb dX7_asSheet_17 rfl (lv_at hl 0 rfl) ?_
  refine va_get (D := D) (ci := 7) (v := .ref q_found) (C := RX7) (T := TX7) (N := 2) hx hb hts hn_X7_asSheet_X7 hown hK hP 0 rfl rfl 0 (by decide) (hts _ hw_X7_asSheet_f7) (fun _ h9 => h9) rfl dX7_asSheet_18 ?_
  refine va_getN (D := D) (ci := 2) (v := .ref q_found_sheets) (C := RX2) (T := TX2) (N := 6) hx hb hts hn_X7_asSheet_X2 hown hK hP 1 rfl rfl 1 (by decide) (va_Nw.use rfl (hN _ nw_X7_17)) (fun _ h9 => h9) rfl dX7_asSheet_21 ?_
  refine lv_iload_n hx hb dX7_asSheet_24 rfl (lv_at hl 1 rfl) ?_
  obtain ⟨r_5, hc_6, hf⟩ := pcl_e hf
  refine m_callV2 (As := [.int x1]) (rest := [.int r_2]) ⟨hx, hb, hml, hown, hts⟩ hX (ct_X6_companions l D cA x1 q_found_sheets q_found_sheets_olds q_found_sheets_youngs q_found_sheets_marshes s_found_sheets_count s_found_sheets_olds s_found_sheets_youngs r_5 hc_6) (cwV 1 hts gX7_asSheet_X6_companions rfl rfl rfl (by decide +kernel) ⟨Nat.le_of_ble_eq_true rfl, Nat.le_of_ble_eq_true rfl⟩) hP hD hS hA [2, 4, 5] [0, 1, 3] 6 (by decide) rfl rfl (WS' := (w_X7_asSheet a0 q_found q_found_sheets q_found_sheets_marshes q_found_sheets_olds q_found_sheets_youngs q_found_books q_found_known q_found_weights cA trace_3 s_found_dugMarshes s_found_kept s_found_sheets_count s_found_sheets_marshes s_found_sheets_olds s_found_sheets_youngs)) (WR := [(a0, .inr (7, [.ref q_found, .long trace_3])), (q_found, .inr (2, [.ref q_found_books, .ref q_found_sheets, .ref q_found_known, .ref q_found_weights, .int s_found_dugMarshes, .int s_found_kept])), (q_found_sheets_marshes, .inl (cA 1, 12, .inl s_found_sheets_marshes))]) rfl rfl rfl rfl (by decide) (by decide) 2 6 rfl rfl rfl hl.1 rfl (st' := [.int r_5, .int r_2]) rfl (Nat.le_of_ble_eq_true rfl) ⟨Nat.zero_le _, Nat.zero_le _⟩ dX7_asSheet_25 (fun H locs hP hD hS => ?_)
  refine lv_iadd hx hb dX7_asSheet_28 ?_
  obtain ⟨rfl, rfl⟩ := pe2 hf
  exact m_iret hx hb hr hlocks hP hS dX7_asSheet_29

/-! ===== OrphanWave$Signs.asWritten(I)I ===== -/
abbrev rm_X7_asWritten : Room := { frames := 1, cells := 0, slots := 0, locals := 21 }
abbrev w_X7_asWritten (a0 : Nat) (q_found : Nat) (q_found_sheets : Nat) (q_found_sheets_marshes : Nat) (q_found_books : Nat) (q_found_known : Nat) (q_found_weights : Nat) (q_found_sheets_olds : Nat) (q_found_sheets_youngs : Nat) (q_found_books_cells : Nat) (q_found_books_froms : Nat) (q_found_books_tos : Nat) (q_found_books_lows : Nat) (q_found_books_highs : Nat) (cA : Nat → ClassId) (s_trace : Int64) (s_found_dugMarshes : Int32) (s_found_kept : Int32) (s_found_sheets_count : Int32) (s_found_sheets_marshes : Nat → Int32) (s_found_books_count : Int32) : va_W := [(a0, .inr (7, [.ref q_found, .long s_trace])), (q_found, .inr (2, [.ref q_found_books, .ref q_found_sheets, .ref q_found_known, .ref q_found_weights, .int s_found_dugMarshes, .int s_found_kept])), (q_found_sheets, .inr (6, [.ref q_found_sheets_marshes, .ref q_found_sheets_olds, .ref q_found_sheets_youngs, .int s_found_sheets_count])), (q_found_sheets_marshes, .inl (cA 1, 12, .inl s_found_sheets_marshes)), (q_found_books, .inr (0, [.ref q_found_books_cells, .ref q_found_books_froms, .ref q_found_books_tos, .ref q_found_books_lows, .ref q_found_books_highs, .int s_found_books_count]))]
theorem hn_X7_asWritten_X7 : ∀ w ∈ u_ws RX7 TX7 2, w ∈ wsX7_asWritten := by decide +kernel
theorem hn_X7_asWritten_X2 : ∀ w ∈ u_ws RX2 TX2 6, w ∈ wsX7_asWritten := by decide +kernel
theorem hn_X7_asWritten_X0 : ∀ w ∈ u_ws RX0 TX0 6, w ∈ wsX7_asWritten := by decide +kernel
theorem hw_X7_asWritten_f13 : Cond.fieldLink RX7 13 "OrphanWave$Signs" "trace" "J" ∈ wsX7_asWritten := by decide +kernel
theorem hw_X7_asWritten_c38 : Cond.constantLong RX7 38 (100) ∈ wsX7_asWritten := by decide +kernel
theorem hw_X7_asWritten_f7 : Cond.fieldLink RX7 7 "OrphanWave$Signs" "found" "LOrphanWave$Findings;" ∈ wsX7_asWritten := by decide +kernel

def f_X7_asWritten (x1 : Int32) (s_trace : Int64) (s_found_sheets_marshes : Nat → Int32) (s_found_books_count : Int32) : Option ((Int32) × (Int64)) :=
  plt ((s_trace + (100 : Int64)) : Int64) (fun trace_1 => (
  pcl (f_X7_asSign x1 trace_1 s_found_sheets_marshes) (fun (r_2, trace_3) => (
  some ((r_2 + s_found_books_count), trace_3)))))

set_option maxRecDepth 100000 in
set_option maxHeartbeats 4000000 in
theorem ct_X7_asWritten (l : Launch) (D : va_G) (cA : Nat → ClassId) (x1 : Int32) (a0 : Nat) (q_found : Nat) (q_found_sheets : Nat) (q_found_sheets_marshes : Nat) (q_found_books : Nat) (q_found_known : Nat) (q_found_weights : Nat) (q_found_sheets_olds : Nat) (q_found_sheets_youngs : Nat) (q_found_books_cells : Nat) (q_found_books_froms : Nat) (q_found_books_tos : Nat) (q_found_books_lows : Nat) (q_found_books_highs : Nat) (s_trace : Int64) (s_found_dugMarshes : Int32) (s_found_kept : Int32) (s_found_sheets_count : Int32) (s_found_sheets_marshes : Nat → Int32) (s_found_books_count : Int32) (o_r : Int32) (o_trace : Int64) (hf : f_X7_asWritten x1 s_trace s_found_sheets_marshes s_found_books_count = some (o_r, o_trace)) : CT l yX7_asWritten wsX7_asWritten rm_X7_asWritten D cA [.ref a0, .int x1] (w_X7_asWritten a0 q_found q_found_sheets q_found_sheets_marshes q_found_books q_found_known q_found_weights q_found_sheets_olds q_found_sheets_youngs q_found_books_cells q_found_books_froms q_found_books_tos q_found_books_lows q_found_books_highs cA s_trace s_found_dugMarshes s_found_kept s_found_sheets_count s_found_sheets_marshes s_found_books_count) (w_X7_asWritten a0 q_found q_found_sheets q_found_sheets_marshes q_found_books q_found_known q_found_weights q_found_sheets_olds q_found_sheets_youngs q_found_books_cells q_found_books_froms q_found_books_tos q_found_books_lows q_found_books_highs cA o_trace s_found_dugMarshes s_found_kept s_found_sheets_count s_found_sheets_marshes s_found_books_count) (some (.int o_r)) := by
  refine CT.ofW (cc := cX7_asWritten) (maxL := 2) (ret := (some .int)) (by decide +kernel) rfl (Nat.le_of_ble_eq_true rfl) ?_
  intro p e s m below meth c A C0 hA hP hD ls hl
  have C0 : MX p s m [.ref a0, .int x1].toArray meth c cX7_asWritten 2 wsX7_asWritten RX7 (some .int) D cA := C0
  have hl : lv_has ls 2 [(0, .ref a0), (1, .int x1)] := hl
  obtain ⟨hx, hb, hml, hown, hts, hr, hlocks, hX⟩ := id C0
  have hK := hX.1
  have hN := hX.2
  have hS : va_S A s.heap s.heap [] := va_S.rf
  unfold f_X7_asWritten at hf
  refine lv_aload_n hx hb dX7_asWritten_0 rfl (lv_at hl 0 rfl) ?_
  refine lv_dup hx hb dX7_asWritten_1 rfl ?_
  refine va_get (D := D) (ci := 7) (v := .long s_trace) (C := RX7) (T := TX7) (N := 2) hx hb hts hn_X7_asWritten_X7 hown hK hP 0 rfl rfl 1 (by decide) (hts _ hw_X7_asWritten_f13) (fun _ h9 => h9) rfl dX7_asWritten_2 ?_
  refine lv_ldc2 (v := (100 : Int64)) hx hb hown (hts _ hw_X7_asWritten_c38) dX7_asWritten_5 ?_
  refine lv_ladd hx hb dX7_asWritten_8 ?_
  refine lv_topl (fun trace_1 etrace_1 => ?_)
  have hf := plt_e etrace_1 hf
  refine va_put (D := D) (ci := 7) (v := .long trace_1) (ty := .long) (C := RX7) (T := TX7) (N := 2) hx hb hts hn_X7_asWritten_X7 tyX7 tyX7_ok nmX7 hown hK hP hD hS 0 rfl rfl 1 (by decide) (hts _ hw_X7_asWritten_f13) (fun _ h9 => h9) rfl (by decide +kernel) rfl rfl (Nat.le_of_ble_eq_true rfl) dX7_asWritten_9 (fun H locs hP hD hS => ?_)
  have hP : va_P D vwCl (w_X7_asWritten a0 q_found q_found_sheets q_found_sheets_marshes q_found_books q_found_known q_found_weights q_found_sheets_olds q_found_sheets_youngs q_found_books_cells q_found_books_froms q_found_books_tos q_found_books_lows q_found_books_highs cA trace_1 s_found_dugMarshes s_found_kept s_found_sheets_count s_found_sheets_marshes s_found_books_count) H := hP
  have hD : va_D A (w_X7_asWritten a0 q_found q_found_sheets q_found_sheets_marshes q_found_books q_found_known q_found_weights q_found_sheets_olds q_found_sheets_youngs q_found_books_cells q_found_books_froms q_found_books_tos q_found_books_lows q_found_books_highs cA trace_1 s_found_dugMarshes s_found_kept s_found_sheets_count s_found_sheets_marshes s_found_books_count) := hD
  refine lv_aload_n hx hb dX7_asWritten_12 rfl (lv_at hl 0 rfl) ?_
  refine lv_iload_n hx hb dX7_asWritten_13 rfl (lv_at hl 1 rfl) ?_
  obtain ⟨⟨r_2, trace_3⟩, hc_4, hf⟩ := pcl_e hf
  refine m_callV2 (As := [.int x1]) (rest := []) ⟨hx, hb, hml, hown, hts⟩ hX (ct_X7_asSign l D cA x1 a0 q_found q_found_sheets q_found_sheets_marshes q_found_books q_found_known q_found_weights q_found_sheets_olds q_found_sheets_youngs trace_1 s_found_dugMarshes s_found_kept s_found_sheets_count s_found_sheets_marshes r_2 trace_3 hc_4) (cwV 1 hts gX7_asWritten_X7_asSign rfl rfl rfl (by decide +kernel) ⟨Nat.le_of_ble_eq_true rfl, Nat.le_of_ble_eq_true rfl⟩) hP hD hS hA [0, 1, 2, 3] [4] 5 (by decide) rfl rfl (WS' := (w_X7_asWritten a0 q_found q_found_sheets q_found_sheets_marshes q_found_books q_found_known q_found_weights q_found_sheets_olds q_found_sheets_youngs q_found_books_cells q_found_books_froms q_found_books_tos q_found_books_lows q_found_books_highs cA trace_3 s_found_dugMarshes s_found_kept s_found_sheets_count s_found_sheets_marshes s_found_books_count)) (WR := [(q_found_books, .inr (0, [.ref q_found_books_cells, .ref q_found_books_froms, .ref q_found_books_tos, .ref q_found_books_lows, .ref q_found_books_highs, .int s_found_books_count]))]) rfl rfl rfl rfl (by decide) (by decide) 0 7 rfl rfl rfl hl.1 rfl (st' := [.int r_2]) rfl (Nat.le_of_ble_eq_true rfl) ⟨Nat.zero_le _, Nat.zero_le _⟩ dX7_asWritten_14 (fun H locs hP hD hS => ?_)
  refine lv_aload_n hx hb dX7_asWritten_17 rfl (lv_at hl 0 rfl) ?_
  refine va_get (D := D) (ci := 7) (v := .ref q_found) (C := RX7) (T := TX7) (N := 2) hx hb hts hn_X7_asWritten_X7 hown hK hP 0 rfl rfl 0 (by decide) (hts _ hw_X7_asWritten_f7) (fun _ h9 => h9) rfl dX7_asWritten_18 ?_
  refine va_getN (D := D) (ci := 2) (v := .ref q_found_books) (C := RX2) (T := TX2) (N := 6) hx hb hts hn_X7_asWritten_X2 hown hK hP 1 rfl rfl 0 (by decide) (va_Nw.use rfl (hN _ nw_X7_40)) (fun _ h9 => h9) rfl dX7_asWritten_21 ?_
  refine va_getN (D := D) (ci := 0) (v := .int s_found_books_count) (C := RX0) (T := TX0) (N := 6) hx hb hts hn_X7_asWritten_X0 hown hK hP 4 rfl rfl 5 (by decide) (va_Nw.use rfl (hN _ nw_X7_44)) (fun _ h9 => h9) rfl dX7_asWritten_24 ?_
  refine lv_iadd hx hb dX7_asWritten_27 ?_
  obtain ⟨rfl, rfl⟩ := pe2 hf
  exact m_iret hx hb hr hlocks hP hS dX7_asWritten_28

/-! ===== OrphanWave$Signs.asSlid(I)I ===== -/
abbrev rm_X7_asSlid : Room := { frames := 2, cells := 0, slots := 0, locals := 44 }
abbrev w_X7_asSlid (a0 : Nat) (q_found : Nat) (q_found_sheets : Nat) (q_found_sheets_marshes : Nat) (q_found_sheets_olds : Nat) (q_found_sheets_youngs : Nat) (q_found_books : Nat) (q_found_known : Nat) (q_found_weights : Nat) (cA : Nat → ClassId) (s_trace : Int64) (s_found_dugMarshes : Int32) (s_found_kept : Int32) (s_found_sheets_count : Int32) (s_found_sheets_marshes : Nat → Int32) (s_found_sheets_olds : Nat → Int32) (s_found_sheets_youngs : Nat → Int32) : va_W := [(a0, .inr (7, [.ref q_found, .long s_trace])), (q_found, .inr (2, [.ref q_found_books, .ref q_found_sheets, .ref q_found_known, .ref q_found_weights, .int s_found_dugMarshes, .int s_found_kept])), (q_found_sheets, .inr (6, [.ref q_found_sheets_marshes, .ref q_found_sheets_olds, .ref q_found_sheets_youngs, .int s_found_sheets_count])), (q_found_sheets_marshes, .inl (cA 1, 12, .inl s_found_sheets_marshes)), (q_found_sheets_olds, .inl (cA 1, 12, .inl s_found_sheets_olds)), (q_found_sheets_youngs, .inl (cA 1, 12, .inl s_found_sheets_youngs))]
theorem hn_X7_asSlid_X7 : ∀ w ∈ u_ws RX7 TX7 2, w ∈ wsX7_asSlid := by decide +kernel
theorem hn_X7_asSlid_X2 : ∀ w ∈ u_ws RX2 TX2 6, w ∈ wsX7_asSlid := by decide +kernel
theorem hw_X7_asSlid_f13 : Cond.fieldLink RX7 13 "OrphanWave$Signs" "trace" "J" ∈ wsX7_asSlid := by decide +kernel
theorem hw_X7_asSlid_c50 : Cond.constantLong RX7 50 (1000) ∈ wsX7_asSlid := by decide +kernel
theorem hw_X7_asSlid_f7 : Cond.fieldLink RX7 7 "OrphanWave$Signs" "found" "LOrphanWave$Findings;" ∈ wsX7_asSlid := by decide +kernel

def f_X7_asSlid (x1 : Int32) (s_trace : Int64) (s_found_sheets_count : Int32) (s_found_sheets_marshes : Nat → Int32) (s_found_sheets_olds : Nat → Int32) (s_found_sheets_youngs : Nat → Int32) : Option ((Int32) × (Int64)) :=
  plt ((s_trace + (1000 : Int64)) : Int64) (fun trace_1 => (
  pcl (f_X6_all s_found_sheets_count) (fun r_2 => (
  pcl (f_X6_marshesOf r_2 s_found_sheets_count s_found_sheets_marshes) (fun r_4 => (
  pcl (f_X7_asSheet x1 trace_1 s_found_sheets_count s_found_sheets_marshes s_found_sheets_olds s_found_sheets_youngs) (fun (r_6, trace_7) => (
  pcl (f_J6_bitCount_0f7a4 r_4) (fun r_9 => (
  some ((r_6 * r_9), trace_7)))))))))))

set_option maxRecDepth 100000 in
set_option maxHeartbeats 4000000 in
theorem ct_X7_asSlid (l : Launch) (D : va_G) (cA : Nat → ClassId) (x1 : Int32) (a0 : Nat) (q_found : Nat) (q_found_sheets : Nat) (q_found_sheets_marshes : Nat) (q_found_sheets_olds : Nat) (q_found_sheets_youngs : Nat) (q_found_books : Nat) (q_found_known : Nat) (q_found_weights : Nat) (s_trace : Int64) (s_found_dugMarshes : Int32) (s_found_kept : Int32) (s_found_sheets_count : Int32) (s_found_sheets_marshes : Nat → Int32) (s_found_sheets_olds : Nat → Int32) (s_found_sheets_youngs : Nat → Int32) (o_r : Int32) (o_trace : Int64) (hf : f_X7_asSlid x1 s_trace s_found_sheets_count s_found_sheets_marshes s_found_sheets_olds s_found_sheets_youngs = some (o_r, o_trace)) : CT l yX7_asSlid wsX7_asSlid rm_X7_asSlid D cA [.ref a0, .int x1] (w_X7_asSlid a0 q_found q_found_sheets q_found_sheets_marshes q_found_sheets_olds q_found_sheets_youngs q_found_books q_found_known q_found_weights cA s_trace s_found_dugMarshes s_found_kept s_found_sheets_count s_found_sheets_marshes s_found_sheets_olds s_found_sheets_youngs) (w_X7_asSlid a0 q_found q_found_sheets q_found_sheets_marshes q_found_sheets_olds q_found_sheets_youngs q_found_books q_found_known q_found_weights cA o_trace s_found_dugMarshes s_found_kept s_found_sheets_count s_found_sheets_marshes s_found_sheets_olds s_found_sheets_youngs) (some (.int o_r)) := by
  refine CT.ofW (cc := cX7_asSlid) (maxL := 3) (ret := (some .int)) (by decide +kernel) rfl (Nat.le_of_ble_eq_true rfl) ?_
  intro p e s m below meth c A C0 hA hP hD ls hl
  have C0 : MX p s m [.ref a0, .int x1].toArray meth c cX7_asSlid 3 wsX7_asSlid RX7 (some .int) D cA := C0
  have hl : lv_has ls 3 [(0, .ref a0), (1, .int x1)] := hl
  obtain ⟨hx, hb, hml, hown, hts, hr, hlocks, hX⟩ := id C0
  have hK := hX.1
  have hN := hX.2
  have hS : va_S A s.heap s.heap [] := va_S.rf
  unfold f_X7_asSlid at hf
  refine lv_aload_n hx hb dX7_asSlid_0 rfl (lv_at hl 0 rfl) ?_
  refine lv_dup hx hb dX7_asSlid_1 rfl ?_
  refine va_get (D := D) (ci := 7) (v := .long s_trace) (C := RX7) (T := TX7) (N := 2) hx hb hts hn_X7_asSlid_X7 hown hK hP 0 rfl rfl 1 (by decide) (hts _ hw_X7_asSlid_f13) (fun _ h9 => h9) rfl dX7_asSlid_2 ?_
  refine lv_ldc2 (v := (1000 : Int64)) hx hb hown (hts _ hw_X7_asSlid_c50) dX7_asSlid_5 ?_
  refine lv_ladd hx hb dX7_asSlid_8 ?_
  refine lv_topl (fun trace_1 etrace_1 => ?_)
  have hf := plt_e etrace_1 hf
  refine va_put (D := D) (ci := 7) (v := .long trace_1) (ty := .long) (C := RX7) (T := TX7) (N := 2) hx hb hts hn_X7_asSlid_X7 tyX7 tyX7_ok nmX7 hown hK hP hD hS 0 rfl rfl 1 (by decide) (hts _ hw_X7_asSlid_f13) (fun _ h9 => h9) rfl (by decide +kernel) rfl rfl (Nat.le_of_ble_eq_true rfl) dX7_asSlid_9 (fun H locs hP hD hS => ?_)
  have hP : va_P D vwCl (w_X7_asSlid a0 q_found q_found_sheets q_found_sheets_marshes q_found_sheets_olds q_found_sheets_youngs q_found_books q_found_known q_found_weights cA trace_1 s_found_dugMarshes s_found_kept s_found_sheets_count s_found_sheets_marshes s_found_sheets_olds s_found_sheets_youngs) H := hP
  have hD : va_D A (w_X7_asSlid a0 q_found q_found_sheets q_found_sheets_marshes q_found_sheets_olds q_found_sheets_youngs q_found_books q_found_known q_found_weights cA trace_1 s_found_dugMarshes s_found_kept s_found_sheets_count s_found_sheets_marshes s_found_sheets_olds s_found_sheets_youngs) := hD
  refine lv_aload_n hx hb dX7_asSlid_12 rfl (lv_at hl 0 rfl) ?_
  refine va_get (D := D) (ci := 7) (v := .ref q_found) (C := RX7) (T := TX7) (N := 2) hx hb hts hn_X7_asSlid_X7 hown hK hP 0 rfl rfl 0 (by decide) (hts _ hw_X7_asSlid_f7) (fun _ h9 => h9) rfl dX7_asSlid_13 ?_
  refine va_getN (D := D) (ci := 2) (v := .ref q_found_sheets) (C := RX2) (T := TX2) (N := 6) hx hb hts hn_X7_asSlid_X2 hown hK hP 1 rfl rfl 1 (by decide) (va_Nw.use rfl (hN _ nw_X7_17)) (fun _ h9 => h9) rfl dX7_asSlid_16 ?_
  refine lv_aload_n hx hb dX7_asSlid_19 rfl (lv_at hl 0 rfl) ?_
  refine va_get (D := D) (ci := 7) (v := .ref q_found) (C := RX7) (T := TX7) (N := 2) hx hb hts hn_X7_asSlid_X7 hown hK hP 0 rfl rfl 0 (by decide) (hts _ hw_X7_asSlid_f7) (fun _ h9 => h9) rfl dX7_asSlid_20 ?_
  refine va_getN (D := D) (ci := 2) (v := .ref q_found_sheets) (C := RX2) (T := TX2) (N := 6) hx hb hts hn_X7_asSlid_X2 hown hK hP 1 rfl rfl 1 (by decide) (va_Nw.use rfl (hN _ nw_X7_17)) (fun _ h9 => h9) rfl dX7_asSlid_23 ?_
  obtain ⟨r_2, hc_3, hf⟩ := pcl_e hf
  refine m_callV2 (As := []) (rest := [.ref q_found_sheets]) ⟨hx, hb, hml, hown, hts⟩ hX (ct_X6_all l D cA q_found_sheets q_found_sheets_marshes q_found_sheets_olds q_found_sheets_youngs s_found_sheets_count r_2 hc_3) (cwV 0 hts gX7_asSlid_X6_all rfl rfl rfl (by decide +kernel) ⟨Nat.le_of_ble_eq_true rfl, Nat.le_of_ble_eq_true rfl⟩) hP hD hS hA [2] [0, 1, 3, 4, 5] 6 (by decide) rfl rfl (WS' := (w_X7_asSlid a0 q_found q_found_sheets q_found_sheets_marshes q_found_sheets_olds q_found_sheets_youngs q_found_books q_found_known q_found_weights cA trace_1 s_found_dugMarshes s_found_kept s_found_sheets_count s_found_sheets_marshes s_found_sheets_olds s_found_sheets_youngs)) (WR := [(a0, .inr (7, [.ref q_found, .long trace_1])), (q_found, .inr (2, [.ref q_found_books, .ref q_found_sheets, .ref q_found_known, .ref q_found_weights, .int s_found_dugMarshes, .int s_found_kept])), (q_found_sheets_marshes, .inl (cA 1, 12, .inl s_found_sheets_marshes)), (q_found_sheets_olds, .inl (cA 1, 12, .inl s_found_sheets_olds)), (q_found_sheets_youngs, .inl (cA 1, 12, .inl s_found_sheets_youngs))]) rfl rfl rfl rfl (by decide) (by decide) 2 6 rfl rfl rfl hl.1 rfl (st' := [.int r_2, .ref q_found_sheets]) rfl (Nat.le_of_ble_eq_true rfl) ⟨Nat.zero_le _, Nat.zero_le _⟩ dX7_asSlid_26 (fun H locs hP hD hS => ?_)
  obtain ⟨r_4, hc_5, hf⟩ := pcl_e hf
  refine m_callV2 (As := [.int r_2]) (rest := []) ⟨hx, hb, hml, hown, hts⟩ hX (ct_X6_marshesOf l D cA r_2 q_found_sheets q_found_sheets_marshes q_found_sheets_olds q_found_sheets_youngs s_found_sheets_count s_found_sheets_marshes r_4 hc_5) (cwV 1 hts gX7_asSlid_X6_marshesOf rfl rfl rfl (by decide +kernel) ⟨Nat.le_of_ble_eq_true rfl, Nat.le_of_ble_eq_true rfl⟩) hP hD hS hA [2, 3] [0, 1, 4, 5] 6 (by decide) rfl rfl (WS' := (w_X7_asSlid a0 q_found q_found_sheets q_found_sheets_marshes q_found_sheets_olds q_found_sheets_youngs q_found_books q_found_known q_found_weights cA trace_1 s_found_dugMarshes s_found_kept s_found_sheets_count s_found_sheets_marshes s_found_sheets_olds s_found_sheets_youngs)) (WR := [(a0, .inr (7, [.ref q_found, .long trace_1])), (q_found, .inr (2, [.ref q_found_books, .ref q_found_sheets, .ref q_found_known, .ref q_found_weights, .int s_found_dugMarshes, .int s_found_kept])), (q_found_sheets_olds, .inl (cA 1, 12, .inl s_found_sheets_olds)), (q_found_sheets_youngs, .inl (cA 1, 12, .inl s_found_sheets_youngs))]) rfl rfl rfl rfl (by decide) (by decide) 2 6 rfl rfl rfl hl.1 rfl (st' := [.int r_4]) rfl (Nat.le_of_ble_eq_true rfl) ⟨Nat.zero_le _, Nat.zero_le _⟩ dX7_asSlid_29 (fun H locs hP hD hS => ?_)
  refine lv_istore_n (lv' := [(2, .int r_4), (0, .ref a0), (1, .int x1)]) hx hb dX7_asSlid_32 rfl hl (by decide) rfl (fun ls hl => ?_)
  refine lv_aload_n hx hb dX7_asSlid_33 rfl (lv_at hl 1 rfl) ?_
  refine lv_iload_n hx hb dX7_asSlid_34 rfl (lv_at hl 2 rfl) ?_
  obtain ⟨⟨r_6, trace_7⟩, hc_8, hf⟩ := pcl_e hf
  refine m_callV2 (As := [.int x1]) (rest := []) ⟨hx, hb, hml, hown, hts⟩ hX (ct_X7_asSheet l D cA x1 a0 q_found q_found_sheets q_found_sheets_marshes q_found_sheets_olds q_found_sheets_youngs q_found_books q_found_known q_found_weights trace_1 s_found_dugMarshes s_found_kept s_found_sheets_count s_found_sheets_marshes s_found_sheets_olds s_found_sheets_youngs r_6 trace_7 hc_8) (cwV 1 hts gX7_asSlid_X7_asSheet rfl rfl rfl (by decide +kernel) ⟨Nat.le_of_ble_eq_true rfl, Nat.le_of_ble_eq_true rfl⟩) hP hD hS hA [0, 1, 2, 3, 4, 5] [] 6 (by decide) rfl rfl (WS' := (w_X7_asSlid a0 q_found q_found_sheets q_found_sheets_marshes q_found_sheets_olds q_found_sheets_youngs q_found_books q_found_known q_found_weights cA trace_7 s_found_dugMarshes s_found_kept s_found_sheets_count s_found_sheets_marshes s_found_sheets_olds s_found_sheets_youngs)) (WR := []) rfl rfl rfl rfl (by decide) (by decide) 0 7 rfl rfl rfl hl.1 rfl (st' := [.int r_6]) rfl (Nat.le_of_ble_eq_true rfl) ⟨Nat.zero_le _, Nat.zero_le _⟩ dX7_asSlid_35 (fun H locs hP hD hS => ?_)
  refine lv_iload_n hx hb dX7_asSlid_38 rfl (lv_at hl 0 rfl) ?_
  obtain ⟨r_9, hc_10, hf⟩ := pcl_e hf
  refine m_callS2 (As := [.int r_4]) (rest := [.int r_6]) ⟨hx, hb, hml, hown, hts⟩ hX (ct_J6_bitCount_0f7a4 l D cA r_4 r_9 hc_10) (va_cwS 1 hts gX7_asSlid_J6_bitCount_0f7a4 rfl rfl rfl (by decide +kernel) ⟨Nat.le_of_ble_eq_true rfl, Nat.le_of_ble_eq_true rfl⟩) hP hD hS hA [] [0, 1, 2, 3, 4, 5] 6 (by decide) rfl rfl (WS' := (w_X7_asSlid a0 q_found q_found_sheets q_found_sheets_marshes q_found_sheets_olds q_found_sheets_youngs q_found_books q_found_known q_found_weights cA trace_7 s_found_dugMarshes s_found_kept s_found_sheets_count s_found_sheets_marshes s_found_sheets_olds s_found_sheets_youngs)) (WR := [(a0, .inr (7, [.ref q_found, .long trace_7])), (q_found, .inr (2, [.ref q_found_books, .ref q_found_sheets, .ref q_found_known, .ref q_found_weights, .int s_found_dugMarshes, .int s_found_kept])), (q_found_sheets, .inr (6, [.ref q_found_sheets_marshes, .ref q_found_sheets_olds, .ref q_found_sheets_youngs, .int s_found_sheets_count])), (q_found_sheets_marshes, .inl (cA 1, 12, .inl s_found_sheets_marshes)), (q_found_sheets_olds, .inl (cA 1, 12, .inl s_found_sheets_olds)), (q_found_sheets_youngs, .inl (cA 1, 12, .inl s_found_sheets_youngs))]) rfl rfl rfl rfl (by decide) (by decide) rfl hl.1 rfl (st' := [.int r_9, .int r_6]) rfl (Nat.le_of_ble_eq_true rfl) ⟨Nat.zero_le _, Nat.zero_le _⟩ dX7_asSlid_39 (fun H locs hP hD hS => ?_)
  refine lv_imul hx hb dX7_asSlid_42 ?_
  obtain ⟨rfl, rfl⟩ := pe2 hf
  exact m_iret hx hb hr hlocks hP hS dX7_asSlid_43

/-! ===== OrphanWave$Signs.asTold(I)I ===== -/
abbrev rm_X7_asTold : Room := { frames := 2, cells := 0, slots := 0, locals := 42 }
abbrev w_X7_asTold (a0 : Nat) (q_found : Nat) (q_found_sheets : Nat) (q_found_books : Nat) (q_found_sheets_marshes : Nat) (q_found_known : Nat) (q_found_weights : Nat) (q_found_sheets_olds : Nat) (q_found_sheets_youngs : Nat) (q_found_books_cells : Nat) (q_found_books_froms : Nat) (q_found_books_tos : Nat) (q_found_books_lows : Nat) (q_found_books_highs : Nat) (cA : Nat → ClassId) (s_trace : Int64) (s_found_dugMarshes : Int32) (s_found_kept : Int32) (s_found_sheets_count : Int32) (s_found_books_count : Int32) (s_found_sheets_marshes : Nat → Int32) : va_W := [(a0, .inr (7, [.ref q_found, .long s_trace])), (q_found, .inr (2, [.ref q_found_books, .ref q_found_sheets, .ref q_found_known, .ref q_found_weights, .int s_found_dugMarshes, .int s_found_kept])), (q_found_sheets, .inr (6, [.ref q_found_sheets_marshes, .ref q_found_sheets_olds, .ref q_found_sheets_youngs, .int s_found_sheets_count])), (q_found_books, .inr (0, [.ref q_found_books_cells, .ref q_found_books_froms, .ref q_found_books_tos, .ref q_found_books_lows, .ref q_found_books_highs, .int s_found_books_count])), (q_found_sheets_marshes, .inl (cA 1, 12, .inl s_found_sheets_marshes))]
theorem hn_X7_asTold_X7 : ∀ w ∈ u_ws RX7 TX7 2, w ∈ wsX7_asTold := by decide +kernel
theorem hw_X7_asTold_f13 : Cond.fieldLink RX7 13 "OrphanWave$Signs" "trace" "J" ∈ wsX7_asTold := by decide +kernel
theorem hw_X7_asTold_c67 : Cond.constantLong RX7 67 (10000) ∈ wsX7_asTold := by decide +kernel

def f_X7_asTold (x1 : Int32) (s_trace : Int64) (s_found_books_count : Int32) (s_found_sheets_marshes : Nat → Int32) : Option ((Int32) × (Int64)) :=
  plt ((s_trace + (10000 : Int64)) : Int64) (fun trace_1 => (
  pcl (f_X7_asWritten x1 trace_1 s_found_sheets_marshes s_found_books_count) (fun (r_2, trace_3) => (
  some (((2 : Int32) * r_2), trace_3)))))

set_option maxRecDepth 100000 in
set_option maxHeartbeats 4000000 in
theorem ct_X7_asTold (l : Launch) (D : va_G) (cA : Nat → ClassId) (x1 : Int32) (a0 : Nat) (q_found : Nat) (q_found_sheets : Nat) (q_found_books : Nat) (q_found_sheets_marshes : Nat) (q_found_known : Nat) (q_found_weights : Nat) (q_found_sheets_olds : Nat) (q_found_sheets_youngs : Nat) (q_found_books_cells : Nat) (q_found_books_froms : Nat) (q_found_books_tos : Nat) (q_found_books_lows : Nat) (q_found_books_highs : Nat) (s_trace : Int64) (s_found_dugMarshes : Int32) (s_found_kept : Int32) (s_found_sheets_count : Int32) (s_found_books_count : Int32) (s_found_sheets_marshes : Nat → Int32) (o_r : Int32) (o_trace : Int64) (hf : f_X7_asTold x1 s_trace s_found_books_count s_found_sheets_marshes = some (o_r, o_trace)) : CT l yX7_asTold wsX7_asTold rm_X7_asTold D cA [.ref a0, .int x1] (w_X7_asTold a0 q_found q_found_sheets q_found_books q_found_sheets_marshes q_found_known q_found_weights q_found_sheets_olds q_found_sheets_youngs q_found_books_cells q_found_books_froms q_found_books_tos q_found_books_lows q_found_books_highs cA s_trace s_found_dugMarshes s_found_kept s_found_sheets_count s_found_books_count s_found_sheets_marshes) (w_X7_asTold a0 q_found q_found_sheets q_found_books q_found_sheets_marshes q_found_known q_found_weights q_found_sheets_olds q_found_sheets_youngs q_found_books_cells q_found_books_froms q_found_books_tos q_found_books_lows q_found_books_highs cA o_trace s_found_dugMarshes s_found_kept s_found_sheets_count s_found_books_count s_found_sheets_marshes) (some (.int o_r)) := by
  refine CT.ofW (cc := cX7_asTold) (maxL := 2) (ret := (some .int)) (by decide +kernel) rfl (Nat.le_of_ble_eq_true rfl) ?_
  intro p e s m below meth c A C0 hA hP hD ls hl
  have C0 : MX p s m [.ref a0, .int x1].toArray meth c cX7_asTold 2 wsX7_asTold RX7 (some .int) D cA := C0
  have hl : lv_has ls 2 [(0, .ref a0), (1, .int x1)] := hl
  obtain ⟨hx, hb, hml, hown, hts, hr, hlocks, hX⟩ := id C0
  have hK := hX.1
  have hN := hX.2
  have hS : va_S A s.heap s.heap [] := va_S.rf
  unfold f_X7_asTold at hf
  refine lv_aload_n hx hb dX7_asTold_0 rfl (lv_at hl 0 rfl) ?_
  refine lv_dup hx hb dX7_asTold_1 rfl ?_
  refine va_get (D := D) (ci := 7) (v := .long s_trace) (C := RX7) (T := TX7) (N := 2) hx hb hts hn_X7_asTold_X7 hown hK hP 0 rfl rfl 1 (by decide) (hts _ hw_X7_asTold_f13) (fun _ h9 => h9) rfl dX7_asTold_2 ?_
  refine lv_ldc2 (v := (10000 : Int64)) hx hb hown (hts _ hw_X7_asTold_c67) dX7_asTold_5 ?_
  refine lv_ladd hx hb dX7_asTold_8 ?_
  refine lv_topl (fun trace_1 etrace_1 => ?_)
  have hf := plt_e etrace_1 hf
  refine va_put (D := D) (ci := 7) (v := .long trace_1) (ty := .long) (C := RX7) (T := TX7) (N := 2) hx hb hts hn_X7_asTold_X7 tyX7 tyX7_ok nmX7 hown hK hP hD hS 0 rfl rfl 1 (by decide) (hts _ hw_X7_asTold_f13) (fun _ h9 => h9) rfl (by decide +kernel) rfl rfl (Nat.le_of_ble_eq_true rfl) dX7_asTold_9 (fun H locs hP hD hS => ?_)
  have hP : va_P D vwCl (w_X7_asTold a0 q_found q_found_sheets q_found_books q_found_sheets_marshes q_found_known q_found_weights q_found_sheets_olds q_found_sheets_youngs q_found_books_cells q_found_books_froms q_found_books_tos q_found_books_lows q_found_books_highs cA trace_1 s_found_dugMarshes s_found_kept s_found_sheets_count s_found_books_count s_found_sheets_marshes) H := hP
  have hD : va_D A (w_X7_asTold a0 q_found q_found_sheets q_found_books q_found_sheets_marshes q_found_known q_found_weights q_found_sheets_olds q_found_sheets_youngs q_found_books_cells q_found_books_froms q_found_books_tos q_found_books_lows q_found_books_highs cA trace_1 s_found_dugMarshes s_found_kept s_found_sheets_count s_found_books_count s_found_sheets_marshes) := hD
  refine lv_iconst (v := (2 : Int32)) hx hb dX7_asTold_12 (by decide) ?_
  refine lv_aload_n hx hb dX7_asTold_13 rfl (lv_at hl 0 rfl) ?_
  refine lv_iload_n hx hb dX7_asTold_14 rfl (lv_at hl 1 rfl) ?_
  obtain ⟨⟨r_2, trace_3⟩, hc_4, hf⟩ := pcl_e hf
  refine m_callV2 (As := [.int x1]) (rest := [.int (2 : Int32)]) ⟨hx, hb, hml, hown, hts⟩ hX (ct_X7_asWritten l D cA x1 a0 q_found q_found_sheets q_found_sheets_marshes q_found_books q_found_known q_found_weights q_found_sheets_olds q_found_sheets_youngs q_found_books_cells q_found_books_froms q_found_books_tos q_found_books_lows q_found_books_highs trace_1 s_found_dugMarshes s_found_kept s_found_sheets_count s_found_sheets_marshes s_found_books_count r_2 trace_3 hc_4) (cwV 1 hts gX7_asTold_X7_asWritten rfl rfl rfl (by decide +kernel) ⟨Nat.le_of_ble_eq_true rfl, Nat.le_of_ble_eq_true rfl⟩) hP hD hS hA [0, 1, 2, 4, 3] [] 5 (by decide) rfl rfl (WS' := (w_X7_asTold a0 q_found q_found_sheets q_found_books q_found_sheets_marshes q_found_known q_found_weights q_found_sheets_olds q_found_sheets_youngs q_found_books_cells q_found_books_froms q_found_books_tos q_found_books_lows q_found_books_highs cA trace_3 s_found_dugMarshes s_found_kept s_found_sheets_count s_found_books_count s_found_sheets_marshes)) (WR := []) rfl rfl rfl rfl (by decide) (by decide) 0 7 rfl rfl rfl hl.1 rfl (st' := [.int r_2, .int (2 : Int32)]) rfl (Nat.le_of_ble_eq_true rfl) ⟨Nat.zero_le _, Nat.zero_le _⟩ dX7_asTold_15 (fun H locs hP hD hS => ?_)
  refine lv_imul hx hb dX7_asTold_18 ?_
  obtain ⟨rfl, rfl⟩ := pe2 hf
  exact m_iret hx hb hr hlocks hP hS dX7_asTold_19

/-! ===== OrphanWave$Signs.asAged(I)I ===== -/
abbrev rm_X7_asAged : Room := { frames := 1, cells := 0, slots := 0, locals := 21 }
abbrev w_X7_asAged (a0 : Nat) (q_found : Nat) (q_found_sheets : Nat) (q_found_sheets_youngs : Nat) (q_found_sheets_olds : Nat) (q_found_sheets_marshes : Nat) (q_found_books : Nat) (q_found_known : Nat) (q_found_weights : Nat) (cA : Nat → ClassId) (s_trace : Int64) (s_found_dugMarshes : Int32) (s_found_kept : Int32) (s_found_sheets_count : Int32) (s_found_sheets_youngs : Nat → Int32) (s_found_sheets_olds : Nat → Int32) (s_found_sheets_marshes : Nat → Int32) : va_W := [(a0, .inr (7, [.ref q_found, .long s_trace])), (q_found, .inr (2, [.ref q_found_books, .ref q_found_sheets, .ref q_found_known, .ref q_found_weights, .int s_found_dugMarshes, .int s_found_kept])), (q_found_sheets, .inr (6, [.ref q_found_sheets_marshes, .ref q_found_sheets_olds, .ref q_found_sheets_youngs, .int s_found_sheets_count])), (q_found_sheets_youngs, .inl (cA 1, 12, .inl s_found_sheets_youngs)), (q_found_sheets_olds, .inl (cA 1, 12, .inl s_found_sheets_olds)), (q_found_sheets_marshes, .inl (cA 1, 12, .inl s_found_sheets_marshes))]
theorem hn_X7_asAged_X7 : ∀ w ∈ u_ws RX7 TX7 2, w ∈ wsX7_asAged := by decide +kernel
theorem hn_X7_asAged_X2 : ∀ w ∈ u_ws RX2 TX2 6, w ∈ wsX7_asAged := by decide +kernel
theorem hn_X7_asAged_X6 : ∀ w ∈ u_ws RX6 TX6 4, w ∈ wsX7_asAged := by decide +kernel
theorem hw_X7_asAged_f13 : Cond.fieldLink RX7 13 "OrphanWave$Signs" "trace" "J" ∈ wsX7_asAged := by decide +kernel
theorem hw_X7_asAged_c72 : Cond.constantLong RX7 72 (100000) ∈ wsX7_asAged := by decide +kernel
theorem hw_X7_asAged_f7 : Cond.fieldLink RX7 7 "OrphanWave$Signs" "found" "LOrphanWave$Findings;" ∈ wsX7_asAged := by decide +kernel

def f_X7_asAged (x1 : Int32) (s_trace : Int64) (s_found_sheets_youngs : Nat → Int32) (s_found_sheets_olds : Nat → Int32) (s_found_sheets_marshes : Nat → Int32) : Option ((Int32) × (Int64)) :=
  plt ((s_trace + (100000 : Int64)) : Int64) (fun trace_1 => (
  pgd (pin x1 12) (
  plt ((((s_found_sheets_youngs x1.toNatClampNeg) - (s_found_sheets_olds x1.toNatClampNeg)) + (1 : Int32)) : Int32) (fun x2_3 => (
  pcl (f_X7_asSign x1 trace_1 s_found_sheets_marshes) (fun (r_4, trace_5) => (
  some ((r_4 - (x2_3 / (100 : Int32))), trace_5))))))))

set_option maxRecDepth 100000 in
set_option maxHeartbeats 4000000 in
theorem ct_X7_asAged (l : Launch) (D : va_G) (cA : Nat → ClassId) (x1 : Int32) (a0 : Nat) (q_found : Nat) (q_found_sheets : Nat) (q_found_sheets_youngs : Nat) (q_found_sheets_olds : Nat) (q_found_sheets_marshes : Nat) (q_found_books : Nat) (q_found_known : Nat) (q_found_weights : Nat) (s_trace : Int64) (s_found_dugMarshes : Int32) (s_found_kept : Int32) (s_found_sheets_count : Int32) (s_found_sheets_youngs : Nat → Int32) (s_found_sheets_olds : Nat → Int32) (s_found_sheets_marshes : Nat → Int32) (o_r : Int32) (o_trace : Int64) (hf : f_X7_asAged x1 s_trace s_found_sheets_youngs s_found_sheets_olds s_found_sheets_marshes = some (o_r, o_trace)) : CT l yX7_asAged wsX7_asAged rm_X7_asAged D cA [.ref a0, .int x1] (w_X7_asAged a0 q_found q_found_sheets q_found_sheets_youngs q_found_sheets_olds q_found_sheets_marshes q_found_books q_found_known q_found_weights cA s_trace s_found_dugMarshes s_found_kept s_found_sheets_count s_found_sheets_youngs s_found_sheets_olds s_found_sheets_marshes) (w_X7_asAged a0 q_found q_found_sheets q_found_sheets_youngs q_found_sheets_olds q_found_sheets_marshes q_found_books q_found_known q_found_weights cA o_trace s_found_dugMarshes s_found_kept s_found_sheets_count s_found_sheets_youngs s_found_sheets_olds s_found_sheets_marshes) (some (.int o_r)) := by
  refine CT.ofW (cc := cX7_asAged) (maxL := 3) (ret := (some .int)) (by decide +kernel) rfl (Nat.le_of_ble_eq_true rfl) ?_
  intro p e s m below meth c A C0 hA hP hD ls hl
  have C0 : MX p s m [.ref a0, .int x1].toArray meth c cX7_asAged 3 wsX7_asAged RX7 (some .int) D cA := C0
  have hl : lv_has ls 3 [(0, .ref a0), (1, .int x1)] := hl
  obtain ⟨hx, hb, hml, hown, hts, hr, hlocks, hX⟩ := id C0
  have hK := hX.1
  have hN := hX.2
  have hS : va_S A s.heap s.heap [] := va_S.rf
  unfold f_X7_asAged at hf
  refine lv_aload_n hx hb dX7_asAged_0 rfl (lv_at hl 0 rfl) ?_
  refine lv_dup hx hb dX7_asAged_1 rfl ?_
  refine va_get (D := D) (ci := 7) (v := .long s_trace) (C := RX7) (T := TX7) (N := 2) hx hb hts hn_X7_asAged_X7 hown hK hP 0 rfl rfl 1 (by decide) (hts _ hw_X7_asAged_f13) (fun _ h9 => h9) rfl dX7_asAged_2 ?_
  refine lv_ldc2 (v := (100000 : Int64)) hx hb hown (hts _ hw_X7_asAged_c72) dX7_asAged_5 ?_
  refine lv_ladd hx hb dX7_asAged_8 ?_
  refine lv_topl (fun trace_1 etrace_1 => ?_)
  have hf := plt_e etrace_1 hf
  refine va_put (D := D) (ci := 7) (v := .long trace_1) (ty := .long) (C := RX7) (T := TX7) (N := 2) hx hb hts hn_X7_asAged_X7 tyX7 tyX7_ok nmX7 hown hK hP hD hS 0 rfl rfl 1 (by decide) (hts _ hw_X7_asAged_f13) (fun _ h9 => h9) rfl (by decide +kernel) rfl rfl (Nat.le_of_ble_eq_true rfl) dX7_asAged_9 (fun H locs hP hD hS => ?_)
  have hP : va_P D vwCl (w_X7_asAged a0 q_found q_found_sheets q_found_sheets_youngs q_found_sheets_olds q_found_sheets_marshes q_found_books q_found_known q_found_weights cA trace_1 s_found_dugMarshes s_found_kept s_found_sheets_count s_found_sheets_youngs s_found_sheets_olds s_found_sheets_marshes) H := hP
  have hD : va_D A (w_X7_asAged a0 q_found q_found_sheets q_found_sheets_youngs q_found_sheets_olds q_found_sheets_marshes q_found_books q_found_known q_found_weights cA trace_1 s_found_dugMarshes s_found_kept s_found_sheets_count s_found_sheets_youngs s_found_sheets_olds s_found_sheets_marshes) := hD
  refine lv_aload_n hx hb dX7_asAged_12 rfl (lv_at hl 0 rfl) ?_
  refine va_get (D := D) (ci := 7) (v := .ref q_found) (C := RX7) (T := TX7) (N := 2) hx hb hts hn_X7_asAged_X7 hown hK hP 0 rfl rfl 0 (by decide) (hts _ hw_X7_asAged_f7) (fun _ h9 => h9) rfl dX7_asAged_13 ?_
  refine va_getN (D := D) (ci := 2) (v := .ref q_found_sheets) (C := RX2) (T := TX2) (N := 6) hx hb hts hn_X7_asAged_X2 hown hK hP 1 rfl rfl 1 (by decide) (va_Nw.use rfl (hN _ nw_X7_17)) (fun _ h9 => h9) rfl dX7_asAged_16 ?_
  refine va_getN (D := D) (ci := 6) (v := .ref q_found_sheets_youngs) (C := RX6) (T := TX6) (N := 4) hx hb hts hn_X7_asAged_X6 hown hK hP 2 rfl rfl 2 (by decide) (va_Nw.use rfl (hN _ nw_X7_74)) (fun _ h9 => h9) rfl dX7_asAged_19 ?_
  refine lv_iload_n hx hb dX7_asAged_22 rfl (lv_at hl 1 rfl) ?_
  obtain ⟨g_2, hf⟩ := pgd_e hf
  refine va_iald hx hb hK hP 3 1 rfl rfl g_2 dX7_asAged_23 ?_
  refine lv_aload_n hx hb dX7_asAged_24 rfl (lv_at hl 0 rfl) ?_
  refine va_get (D := D) (ci := 7) (v := .ref q_found) (C := RX7) (T := TX7) (N := 2) hx hb hts hn_X7_asAged_X7 hown hK hP 0 rfl rfl 0 (by decide) (hts _ hw_X7_asAged_f7) (fun _ h9 => h9) rfl dX7_asAged_25 ?_
  refine va_getN (D := D) (ci := 2) (v := .ref q_found_sheets) (C := RX2) (T := TX2) (N := 6) hx hb hts hn_X7_asAged_X2 hown hK hP 1 rfl rfl 1 (by decide) (va_Nw.use rfl (hN _ nw_X7_17)) (fun _ h9 => h9) rfl dX7_asAged_28 ?_
  refine va_getN (D := D) (ci := 6) (v := .ref q_found_sheets_olds) (C := RX6) (T := TX6) (N := 4) hx hb hts hn_X7_asAged_X6 hown hK hP 2 rfl rfl 1 (by decide) (va_Nw.use rfl (hN _ nw_X7_77)) (fun _ h9 => h9) rfl dX7_asAged_31 ?_
  refine lv_iload_n hx hb dX7_asAged_34 rfl (lv_at hl 1 rfl) ?_
  refine va_iald hx hb hK hP 4 1 rfl rfl g_2 dX7_asAged_35 ?_
  refine lv_isub hx hb dX7_asAged_36 ?_
  refine lv_iconst (v := (1 : Int32)) hx hb dX7_asAged_37 (by decide) ?_
  refine lv_iadd hx hb dX7_asAged_38 ?_
  refine lv_topi (fun x2_3 ex2_3 => ?_)
  have hf := plt_e ex2_3 hf
  refine lv_istore_n (lv' := [(2, .int x2_3), (0, .ref a0), (1, .int x1)]) hx hb dX7_asAged_39 rfl hl (by decide) rfl (fun ls hl => ?_)
  refine lv_aload_n hx hb dX7_asAged_40 rfl (lv_at hl 1 rfl) ?_
  refine lv_iload_n hx hb dX7_asAged_41 rfl (lv_at hl 2 rfl) ?_
  obtain ⟨⟨r_4, trace_5⟩, hc_6, hf⟩ := pcl_e hf
  refine m_callV2 (As := [.int x1]) (rest := []) ⟨hx, hb, hml, hown, hts⟩ hX (ct_X7_asSign l D cA x1 a0 q_found q_found_sheets q_found_sheets_marshes q_found_books q_found_known q_found_weights q_found_sheets_olds q_found_sheets_youngs trace_1 s_found_dugMarshes s_found_kept s_found_sheets_count s_found_sheets_marshes r_4 trace_5 hc_6) (cwV 1 hts gX7_asAged_X7_asSign rfl rfl rfl (by decide +kernel) ⟨Nat.le_of_ble_eq_true rfl, Nat.le_of_ble_eq_true rfl⟩) hP hD hS hA [0, 1, 2, 5] [3, 4] 6 (by decide) rfl rfl (WS' := (w_X7_asAged a0 q_found q_found_sheets q_found_sheets_youngs q_found_sheets_olds q_found_sheets_marshes q_found_books q_found_known q_found_weights cA trace_5 s_found_dugMarshes s_found_kept s_found_sheets_count s_found_sheets_youngs s_found_sheets_olds s_found_sheets_marshes)) (WR := [(q_found_sheets_youngs, .inl (cA 1, 12, .inl s_found_sheets_youngs)), (q_found_sheets_olds, .inl (cA 1, 12, .inl s_found_sheets_olds))]) rfl rfl rfl rfl (by decide) (by decide) 0 7 rfl rfl rfl hl.1 rfl (st' := [.int r_4]) rfl (Nat.le_of_ble_eq_true rfl) ⟨Nat.zero_le _, Nat.zero_le _⟩ dX7_asAged_42 (fun H locs hP hD hS => ?_)
  refine lv_iload_n hx hb dX7_asAged_45 rfl (lv_at hl 0 rfl) ?_
  refine lv_bipush (v := (100 : Int32)) hx hb dX7_asAged_46 (by decide) ?_
  refine lv_idiv hx hb dX7_asAged_48 (by decide) ?_
  refine lv_isub hx hb dX7_asAged_49 ?_
  obtain ⟨rfl, rfl⟩ := pe2 hf
  exact m_iret hx hb hr hlocks hP hS dX7_asAged_50
