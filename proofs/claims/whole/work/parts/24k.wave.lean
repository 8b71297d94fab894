/-! ===== OrphanWave.count(I)I ===== -/
abbrev rm_X11_count : Room := { frames := 2, cells := 0, slots := 0, locals := 40 }
abbrev w_X11_count (a0 : Nat) (q_ocean : Nat) (q_ocean_depths : Nat) (q_found : Nat) (q_found_books : Nat) (q_calendar : Nat) (q_trees : Nat) (q_found_sheets : Nat) (q_found_known : Nat) (q_text : Nat) (q_images : Nat) (q_search : Nat) (q_stories : Nat) (q_signs : Nat) (q_draft : Nat) (q_ocean_figures : Nat) (q_ocean_times : Nat) (q_found_weights : Nat) (q_found_books_cells : Nat) (q_found_books_froms : Nat) (q_found_books_tos : Nat) (q_found_books_lows : Nat) (q_found_books_highs : Nat) (q_calendar_lengths : Nat) (q_calendar_months : Nat) (q_trees_livingRings : Nat) (q_trees_woodRings : Nat) (q_trees_woodCounts : Nat) (q_trees_ends : Nat) (q_found_sheets_marshes : Nat) (q_found_sheets_olds : Nat) (q_found_sheets_youngs : Nat) (q_found_known_years : Nat) (q_text_bytes : Nat) (cA : Nat → ClassId) (s_yearOfNow : Int32) (s_ocean_pace : Int32) (s_ocean_fade : Int32) (s_ocean_depths : Nat → Int32) (s_found_dugMarshes : Int32) (s_found_kept : Int32) (s_found_books_count : Int32) (s_calendar_years : Int32) (s_trees_livingCount : Int32) (s_trees_firstYear : Int32) (s_found_sheets_count : Int32) (s_found_known_count : Int32) (s_text_length : Int32) : va_W := [(a0, .inr (11, [.ref q_text, .ref q_ocean, .ref q_trees, .ref q_found, .ref q_images, .ref q_search, .ref q_stories, .ref q_signs, .ref q_calendar, .ref q_draft, .int s_yearOfNow])), (q_ocean, .inr (4, [.ref q_ocean_depths, .ref q_ocean_figures, .ref q_ocean_times, .int s_ocean_pace, .int s_ocean_fade])), (q_ocean_depths, .inl (cA 1, 48, .inl s_ocean_depths)), (q_found, .inr (2, [.ref q_found_books, .ref q_found_sheets, .ref q_found_known, .ref q_found_weights, .int s_found_dugMarshes, .int s_found_kept])), (q_found_books, .inr (0, [.ref q_found_books_cells, .ref q_found_books_froms, .ref q_found_books_tos, .ref q_found_books_lows, .ref q_found_books_highs, .int s_found_books_count])), (q_calendar, .inr (1, [.ref q_calendar_lengths, .ref q_calendar_months, .int s_calendar_years])), (q_trees, .inr (10, [.ref q_trees_livingRings, .ref q_trees_woodRings, .ref q_trees_woodCounts, .ref q_trees_ends, .int s_trees_livingCount, .int s_trees_firstYear])), (q_found_sheets, .inr (6, [.ref q_found_sheets_marshes, .ref q_found_sheets_olds, .ref q_found_sheets_youngs, .int s_found_sheets_count])), (q_found_known, .inr (3, [.ref q_found_known_years, .int s_found_known_count])), (q_text, .inr (9, [.ref q_text_bytes, .int s_text_length]))]
theorem hn_X11_count_X11 : ∀ w ∈ u_ws RX11 TX11 11, w ∈ wsX11_count := by decide +kernel
theorem hn_X11_count_X2 : ∀ w ∈ u_ws RX2 TX2 6, w ∈ wsX11_count := by decide +kernel
theorem hn_X11_count_X0 : ∀ w ∈ u_ws RX0 TX0 6, w ∈ wsX11_count := by decide +kernel
theorem hn_X11_count_X1 : ∀ w ∈ u_ws RX1 TX1 3, w ∈ wsX11_count := by decide +kernel
theorem hn_X11_count_X10 : ∀ w ∈ u_ws RX10 TX10 6, w ∈ wsX11_count := by decide +kernel
theorem hn_X11_count_X6 : ∀ w ∈ u_ws RX6 TX6 4, w ∈ wsX11_count := by decide +kernel
theorem hn_X11_count_X3 : ∀ w ∈ u_ws RX3 TX3 2, w ∈ wsX11_count := by decide +kernel
theorem hn_X11_count_X9 : ∀ w ∈ u_ws RX9 TX9 2, w ∈ wsX11_count := by decide +kernel
theorem hw_X11_count_f19 : Cond.fieldLink RX11 19 "OrphanWave" "ocean" "LOrphanWave$Ocean;" ∈ wsX11_count := by decide +kernel
theorem hw_X11_count_f33 : Cond.fieldLink RX11 33 "OrphanWave" "found" "LOrphanWave$Findings;" ∈ wsX11_count := by decide +kernel
theorem hw_X11_count_f73 : Cond.fieldLink RX11 73 "OrphanWave" "calendar" "LOrphanWave$Calendar;" ∈ wsX11_count := by decide +kernel
theorem hw_X11_count_f26 : Cond.fieldLink RX11 26 "OrphanWave" "trees" "LOrphanWave$Trees;" ∈ wsX11_count := by decide +kernel
theorem hw_X11_count_f12 : Cond.fieldLink RX11 12 "OrphanWave" "text" "LOrphanWave$Text;" ∈ wsX11_count := by decide +kernel

def f_X11_count (x1 : Int32) (s_ocean_depths : Nat → Int32) (s_found_dugMarshes : Int32) (s_found_books_count : Int32) (s_calendar_years : Int32) (s_trees_livingCount : Int32) (s_found_sheets_count : Int32) (s_found_known_count : Int32) (s_text_length : Int32) : Option ((Int32)) :=
  pbr (x1 = (0 : Int32))
    (pcl (f_X4_seaCells s_ocean_depths) (fun r_2 => (
    some (r_2))))
  (pbr (x1 = (1 : Int32))
    (some (s_found_books_count))
  (pbr (x1 = (2 : Int32))
    (some (s_calendar_years))
  (pbr (x1 = (3 : Int32))
    (some (s_trees_livingCount))
  (pbr (x1 = (4 : Int32))
    (some (s_found_sheets_count))
  (pbr (x1 = (5 : Int32))
    (some (s_found_known_count))
  (pbr (x1 = (6 : Int32))
    (pcl (f_X2_dugCount s_found_dugMarshes) (fun r_10 => (
    some (r_10))))
  (pbr (x1 = (7 : Int32))
    (some (s_text_length))
  (some ((-1 : Int32))))))))))

set_option maxRecDepth 100000 in
set_option maxHeartbeats 4000000 in
theorem ct_X11_count (l : Launch) (D : va_G) (cA : Nat → ClassId) (x1 : Int32) (a0 : Nat) (q_ocean : Nat) (q_ocean_depths : Nat) (q_found : Nat) (q_found_books : Nat) (q_calendar : Nat) (q_trees : Nat) (q_found_sheets : Nat) (q_found_known : Nat) (q_text : Nat) (q_images : Nat) (q_search : Nat) (q_stories : Nat) (q_signs : Nat) (q_draft : Nat) (q_ocean_figures : Nat) (q_ocean_times : Nat) (q_found_weights : Nat) (q_found_books_cells : Nat) (q_found_books_froms : Nat) (q_found_books_tos : Nat) (q_found_books_lows : Nat) (q_found_books_highs : Nat) (q_calendar_lengths : Nat) (q_calendar_months : Nat) (q_trees_livingRings : Nat) (q_trees_woodRings : Nat) (q_trees_woodCounts : Nat) (q_trees_ends : Nat) (q_found_sheets_marshes : Nat) (q_found_sheets_olds : Nat) (q_found_sheets_youngs : Nat) (q_found_known_years : Nat) (q_text_bytes : Nat) (s_yearOfNow : Int32) (s_ocean_pace : Int32) (s_ocean_fade : Int32) (s_ocean_depths : Nat → Int32) (s_found_dugMarshes : Int32) (s_found_kept : Int32) (s_found_books_count : Int32) (s_calendar_years : Int32) (s_trees_livingCount : Int32) (s_trees_firstYear : Int32) (s_found_sheets_count : Int32) (s_found_known_count : Int32) (s_text_length : Int32) (o_r : Int32) (hf : f_X11_count x1 s_ocean_depths s_found_dugMarshes s_found_books_count s_calendar_years s_trees_livingCount s_found_sheets_count s_found_known_count s_text_length = some o_r) : CT l yX11_count wsX11_count rm_X11_count D cA [.ref a0, .int x1] (w_X11_count a0 q_ocean q_ocean_depths q_found q_found_books q_calendar q_trees q_found_sheets q_found_known q_text q_images q_search q_stories q_signs q_draft q_ocean_figures q_ocean_times q_found_weights q_found_books_cells q_found_books_froms q_found_books_tos q_found_books_lows q_found_books_highs q_calendar_lengths q_calendar_months q_trees_livingRings q_trees_woodRings q_trees_woodCounts q_trees_ends q_found_sheets_marshes q_found_sheets_olds q_found_sheets_youngs q_found_known_years q_text_bytes cA s_yearOfNow s_ocean_pace s_ocean_fade s_ocean_depths s_found_dugMarshes s_found_kept s_found_books_count s_calendar_years s_trees_livingCount s_trees_firstYear s_found_sheets_count s_found_known_count s_text_length) (w_X11_count a0 q_ocean q_ocean_depths q_found q_found_books q_calendar q_trees q_found_sheets q_found_known q_text q_images q_search q_stories q_signs q_draft q_ocean_figures q_ocean_times q_found_weights q_found_books_cells q_found_books_froms q_found_books_tos q_found_books_lows q_found_books_highs q_calendar_lengths q_calendar_months q_trees_livingRings q_trees_woodRings q_trees_woodCounts q_trees_ends q_found_sheets_marshes q_found_sheets_olds q_found_sheets_youngs q_found_known_years q_text_bytes cA s_yearOfNow s_ocean_pace s_ocean_fade s_ocean_depths s_found_dugMarshes s_found_kept s_found_books_count s_calendar_years s_trees_livingCount s_trees_firstYear s_found_sheets_count s_found_known_count s_text_length) (some (.int o_r)) := by
  refine CT.ofW (cc := cX11_count) (maxL := 2) (ret := (some .int)) (by decide +kernel) rfl (Nat.le_of_ble_eq_true rfl) ?_
  intro p e s m below meth c A C0 hA hP hD ls hl
  have C0 : MX p s m [.ref a0, .int x1].toArray meth c cX11_count 2 wsX11_count RX11 (some .int) D cA := C0
  have hl : lv_has ls 2 [(0, .ref a0), (1, .int x1)] := hl
  obtain ⟨hx, hb, hml, hown, hts, hr, hlocks, hX⟩ := id C0
  have hK := hX.1
  have hN := hX.2
  have hS : va_S A s.heap s.heap [] := va_S.rf
  unfold f_X11_count at hf
  refine lv_iload_n hx hb dX11_count_0 rfl (lv_at hl 1 rfl) ?_
  by_cases c_1 : x1 = (0 : Int32)
  · have hf := pbr_t c_1 hf
    refine lv_tableIn (off := 47) (tgt := 48) hx hb dX11_count_1 (by rw [c_1]; decide) (by rw [c_1]; decide) (by rw [c_1]; rfl) (by decide) ?_
    refine lv_aload_n hx hb dX11_count_48 rfl (lv_at hl 0 rfl) ?_
    refine va_get (D := D) (ci := 11) (v := .ref q_ocean) (C := RX11) (T := TX11) (N := 11) hx hb hts hn_X11_count_X11 hown hK hP 0 rfl rfl 1 (by decide) (hts _ hw_X11_count_f19) (fun _ h9 => h9) rfl dX11_count_49 ?_
    obtain ⟨r_2, hc_3, hf⟩ := pcl_e hf
    refine m_callV2 (As := []) (rest := []) ⟨hx, hb, hml, hown, hts⟩ hX (ct_X4_seaCells l D cA q_ocean q_ocean_depths q_ocean_figures q_ocean_times s_ocean_pace s_ocean_fade s_ocean_depths r_2 hc_3) (cwV 0 hts gX11_count_X4_seaCells rfl rfl rfl (by decide +kernel) ⟨Nat.le_of_ble_eq_true rfl, Nat.le_of_ble_eq_true rfl⟩) hP hD hS hA [1, 2] [0, 3, 4, 5, 6, 7, 8, 9] 10 (by decide) rfl rfl (WS' := (w_X11_count a0 q_ocean q_ocean_depths q_found q_found_books q_calendar q_trees q_found_sheets q_found_known q_text q_images q_search q_stories q_signs q_draft q_ocean_figures q_ocean_times q_found_weights q_found_books_cells q_found_books_froms q_found_books_tos q_found_books_lows q_found_books_highs q_calendar_lengths q_calendar_months q_trees_livingRings q_trees_woodRings q_trees_woodCounts q_trees_ends q_found_sheets_marshes q_found_sheets_olds q_found_sheets_youngs q_found_known_years q_text_bytes cA s_yearOfNow s_ocean_pace s_ocean_fade s_ocean_depths s_found_dugMarshes s_found_kept s_found_books_count s_calendar_years s_trees_livingCount s_trees_firstYear s_found_sheets_count s_found_known_count s_text_length)) (WR := [(a0, .inr (11, [.ref q_text, .ref q_ocean, .ref q_trees, .ref q_found, .ref q_images, .ref q_search, .ref q_stories, .ref q_signs, .ref q_calendar, .ref q_draft, .int s_yearOfNow])), (q_found, .inr (2, [.ref q_found_books, .ref q_found_sheets, .ref q_found_known, .ref q_found_weights, .int s_found_dugMarshes, .int s_found_kept])), (q_found_books, .inr (0, [.ref q_found_books_cells, .ref q_found_books_froms, .ref q_found_books_tos, .ref q_found_books_lows, .ref q_found_books_highs, .int s_found_books_count])), (q_calendar, .inr (1, [.ref q_calendar_lengths, .ref q_calendar_months, .int s_calendar_years])), (q_trees, .inr (10, [.ref q_trees_livingRings, .ref q_trees_woodRings, .ref q_trees_woodCounts, .ref q_trees_ends, .int s_trees_livingCount, .int s_trees_firstYear])), (q_found_sheets, .inr (6, [.ref q_found_sheets_marshes, .ref q_found_sheets_olds, .ref q_found_sheets_youngs, .int s_found_sheets_count])), (q_found_known, .inr (3, [.ref q_found_known_years, .int s_found_known_count])), (q_text, .inr (9, [.ref q_text_bytes, .int s_text_length]))]) rfl rfl rfl rfl (by decide) (by decide) 1 4 rfl rfl rfl hl.1 rfl (st' := [.int r_2]) rfl (Nat.le_of_ble_eq_true rfl) ⟨Nat.zero_le _, Nat.zero_le _⟩ dX11_count_52 (fun H locs hP hD hS => ?_)
    obtain rfl := pe1 hf
    exact m_iret hx hb hr hlocks hP hS dX11_count_55
  have hf := pbr_f c_1 hf
  by_cases c_4 : x1 = (1 : Int32)
  · have hf := pbr_t c_4 hf
    refine lv_tableIn (off := 55) (tgt := 56) hx hb dX11_count_1 (by rw [c_4]; decide) (by rw [c_4]; decide) (by rw [c_4]; rfl) (by decide) ?_
    refine lv_aload_n hx hb dX11_count_56 rfl (lv_at hl 0 rfl) ?_
    refine va_get (D := D) (ci := 11) (v := .ref q_found) (C := RX11) (T := TX11) (N := 11) hx hb hts hn_X11_count_X11 hown hK hP 0 rfl rfl 3 (by decide) (hts _ hw_X11_count_f33) (fun _ h9 => h9) rfl dX11_count_57 ?_
    refine va_getN (D := D) (ci := 2) (v := .ref q_found_books) (C := RX2) (T := TX2) (N := 6) hx hb hts hn_X11_count_X2 hown hK hP 3 rfl rfl 0 (by decide) (va_Nw.use rfl (hN _ nw_X11_43)) (fun _ h9 => h9) rfl dX11_count_60 ?_
    refine va_getN (D := D) (ci := 0) (v := .int s_found_books_count) (C := RX0) (T := TX0) (N := 6) hx hb hts hn_X11_count_X0 hown hK hP 4 rfl rfl 5 (by decide) (va_Nw.use rfl (hN _ nw_X11_141)) (fun _ h9 => h9) rfl dX11_count_63 ?_
    obtain rfl := pe1 hf
    exact m_iret hx hb hr hlocks hP hS dX11_count_66
  have hf := pbr_f c_4 hf
  by_cases c_5 : x1 = (2 : Int32)
  · have hf := pbr_t c_5 hf
    refine lv_tableIn (off := 66) (tgt := 67) hx hb dX11_count_1 (by rw [c_5]; decide) (by rw [c_5]; decide) (by rw [c_5]; rfl) (by decide) ?_
    refine lv_aload_n hx hb dX11_count_67 rfl (lv_at hl 0 rfl) ?_
    refine va_get (D := D) (ci := 11) (v := .ref q_calendar) (C := RX11) (T := TX11) (N := 11) hx hb hts hn_X11_count_X11 hown hK hP 0 rfl rfl 8 (by decide) (hts _ hw_X11_count_f73) (fun _ h9 => h9) rfl dX11_count_68 ?_
    refine va_getN (D := D) (ci := 1) (v := .int s_calendar_years) (C := RX1) (T := TX1) (N := 3) hx hb hts hn_X11_count_X1 hown hK hP 5 rfl rfl 2 (by decide) (va_Nw.use rfl (hN _ nw_X11_180)) (fun _ h9 => h9) rfl dX11_count_71 ?_
    obtain rfl := pe1 hf
    exact m_iret hx hb hr hlocks hP hS dX11_count_74
  have hf := pbr_f c_5 hf
  by_cases c_6 : x1 = (3 : Int32)
  · have hf := pbr_t c_6 hf
    refine lv_tableIn (off := 74) (tgt := 75) hx hb dX11_count_1 (by rw [c_6]; decide) (by rw [c_6]; decide) (by rw [c_6]; rfl) (by decide) ?_
    refine lv_aload_n hx hb dX11_count_75 rfl (lv_at hl 0 rfl) ?_
    refine va_get (D := D) (ci := 11) (v := .ref q_trees) (C := RX11) (T := TX11) (N := 11) hx hb hts hn_X11_count_X11 hown hK hP 0 rfl rfl 2 (by decide) (hts _ hw_X11_count_f26) (fun _ h9 => h9) rfl dX11_count_76 ?_
    refine va_getN (D := D) (ci := 10) (v := .int s_trees_livingCount) (C := RX10) (T := TX10) (N := 6) hx hb hts hn_X11_count_X10 hown hK hP 6 rfl rfl 4 (by decide) (va_Nw.use rfl (hN _ nw_X11_204)) (fun _ h9 => h9) rfl dX11_count_79 ?_
    obtain rfl := pe1 hf
    exact m_iret hx hb hr hlocks hP hS dX11_count_82
  have hf := pbr_f c_6 hf
  by_cases c_7 : x1 = (4 : Int32)
  · have hf := pbr_t c_7 hf
    refine lv_tableIn (off := 82) (tgt := 83) hx hb dX11_count_1 (by rw [c_7]; decide) (by rw [c_7]; decide) (by rw [c_7]; rfl) (by decide) ?_
    refine lv_aload_n hx hb dX11_count_83 rfl (lv_at hl 0 rfl) ?_
    refine va_get (D := D) (ci := 11) (v := .ref q_found) (C := RX11) (T := TX11) (N := 11) hx hb hts hn_X11_count_X11 hown hK hP 0 rfl rfl 3 (by decide) (hts _ hw_X11_count_f33) (fun _ h9 => h9) rfl dX11_count_84 ?_
    refine va_getN (D := D) (ci := 2) (v := .ref q_found_sheets) (C := RX2) (T := TX2) (N := 6) hx hb hts hn_X11_count_X2 hown hK hP 3 rfl rfl 1 (by decide) (va_Nw.use rfl (hN _ nw_X11_250)) (fun _ h9 => h9) rfl dX11_count_87 ?_
    refine va_getN (D := D) (ci := 6) (v := .int s_found_sheets_count) (C := RX6) (T := TX6) (N := 4) hx hb hts hn_X11_count_X6 hown hK hP 7 rfl rfl 3 (by decide) (va_Nw.use rfl (hN _ nw_X11_254)) (fun _ h9 => h9) rfl dX11_count_90 ?_
    obtain rfl := pe1 hf
    exact m_iret hx hb hr hlocks hP hS dX11_count_93
  have hf := pbr_f c_7 hf
  by_cases c_8 : x1 = (5 : Int32)
  · have hf := pbr_t c_8 hf
    refine lv_tableIn (off := 93) (tgt := 94) hx hb dX11_count_1 (by rw [c_8]; decide) (by rw [c_8]; decide) (by rw [c_8]; rfl) (by decide) ?_
    refine lv_aload_n hx hb dX11_count_94 rfl (lv_at hl 0 rfl) ?_
    refine va_get (D := D) (ci := 11) (v := .ref q_found) (C := RX11) (T := TX11) (N := 11) hx hb hts hn_X11_count_X11 hown hK hP 0 rfl rfl 3 (by decide) (hts _ hw_X11_count_f33) (fun _ h9 => h9) rfl dX11_count_95 ?_
    refine va_getN (D := D) (ci := 2) (v := .ref q_found_known) (C := RX2) (T := TX2) (N := 6) hx hb hts hn_X11_count_X2 hown hK hP 3 rfl rfl 2 (by decide) (va_Nw.use rfl (hN _ nw_X11_290)) (fun _ h9 => h9) rfl dX11_count_98 ?_
    refine va_getN (D := D) (ci := 3) (v := .int s_found_known_count) (C := RX3) (T := TX3) (N := 2) hx hb hts hn_X11_count_X3 hown hK hP 8 rfl rfl 1 (by decide) (va_Nw.use rfl (hN _ nw_X11_299)) (fun _ h9 => h9) rfl dX11_count_101 ?_
    obtain rfl := pe1 hf
    exact m_iret hx hb hr hlocks hP hS dX11_count_104
  have hf := pbr_f c_8 hf
  by_cases c_9 : x1 = (6 : Int32)
  · have hf := pbr_t c_9 hf
    refine lv_tableIn (off := 104) (tgt := 105) hx hb dX11_count_1 (by rw [c_9]; decide) (by rw [c_9]; decide) (by rw [c_9]; rfl) (by decide) ?_
    refine lv_aload_n hx hb dX11_count_105 rfl (lv_at hl 0 rfl) ?_
    refine va_get (D := D) (ci := 11) (v := .ref q_found) (C := RX11) (T := TX11) (N := 11) hx hb hts hn_X11_count_X11 hown hK hP 0 rfl rfl 3 (by decide) (hts _ hw_X11_count_f33) (fun _ h9 => h9) rfl dX11_count_106 ?_
    obtain ⟨r_10, hc_11, hf⟩ := pcl_e hf
    refine m_callV2 (As := []) (rest := []) ⟨hx, hb, hml, hown, hts⟩ hX (ct_X2_dugCount l D cA q_found q_found_books q_found_sheets q_found_known q_found_weights s_found_dugMarshes s_found_kept r_10 hc_11) (cwV 0 hts gX11_count_X2_dugCount rfl rfl rfl (by decide +kernel) ⟨Nat.le_of_ble_eq_true rfl, Nat.le_of_ble_eq_true rfl⟩) hP hD hS hA [3] [0, 1, 2, 4, 5, 6, 7, 8, 9] 10 (by decide) rfl rfl (WS' := (w_X11_count a0 q_ocean q_ocean_depths q_found q_found_books q_calendar q_trees q_found_sheets q_found_known q_text q_images q_search q_stories q_signs q_draft q_ocean_figures q_ocean_times q_found_weights q_found_books_cells q_found_books_froms q_found_books_tos q_found_books_lows q_found_books_highs q_calendar_lengths q_calendar_months q_trees_livingRings q_trees_woodRings q_trees_woodCounts q_trees_ends q_found_sheets_marshes q_found_sheets_olds q_found_sheets_youngs q_found_known_years q_text_bytes cA s_yearOfNow s_ocean_pace s_ocean_fade s_ocean_depths s_found_dugMarshes s_found_kept s_found_books_count s_calendar_years s_trees_livingCount s_trees_firstYear s_found_sheets_count s_found_known_count s_text_length)) (WR := [(a0, .inr (11, [.ref q_text, .ref q_ocean, .ref q_trees, .ref q_found, .ref q_images, .ref q_search, .ref q_stories, .ref q_signs, .ref q_calendar, .ref q_draft, .int s_yearOfNow])), (q_ocean, .inr (4, [.ref q_ocean_depths, .ref q_ocean_figures, .ref q_ocean_times, .int s_ocean_pace, .int s_ocean_fade])), (q_ocean_depths, .inl (cA 1, 48, .inl s_ocean_depths)), (q_found_books, .inr (0, [.ref q_found_books_cells, .ref q_found_books_froms, .ref q_found_books_tos, .ref q_found_books_lows, .ref q_found_books_highs, .int s_found_books_count])), (q_calendar, .inr (1, [.ref q_calendar_lengths, .ref q_calendar_months, .int s_calendar_years])), (q_trees, .inr (10, [.ref q_trees_livingRings, .ref q_trees_woodRings, .ref q_trees_woodCounts, .ref q_trees_ends, .int s_trees_livingCount, .int s_trees_firstYear])), (q_found_sheets, .inr (6, [.ref q_found_sheets_marshes, .ref q_found_sheets_olds, .ref q_found_sheets_youngs, .int s_found_sheets_count])), (q_found_known, .inr (3, [.ref q_found_known_years, .int s_found_known_count])), (q_text, .inr (9, [.ref q_text_bytes, .int s_text_length]))]) rfl rfl rfl rfl (by decide) (by decide) 3 2 rfl rfl rfl hl.1 rfl (st' := [.int r_10]) rfl (Nat.le_of_ble_eq_true rfl) ⟨Nat.zero_le _, Nat.zero_le _⟩ dX11_count_109 (fun H locs hP hD hS => ?_)
    obtain rfl := pe1 hf
    exact m_iret hx hb hr hlocks hP hS dX11_count_112
  have hf := pbr_f c_9 hf
  by_cases c_12 : x1 = (7 : Int32)
  · have hf := pbr_t c_12 hf
    refine lv_tableIn (off := 112) (tgt := 113) hx hb dX11_count_1 (by rw [c_12]; decide) (by rw [c_12]; decide) (by rw [c_12]; rfl) (by decide) ?_
    refine lv_aload_n hx hb dX11_count_113 rfl (lv_at hl 0 rfl) ?_
    refine va_get (D := D) (ci := 11) (v := .ref q_text) (C := RX11) (T := TX11) (N := 11) hx hb hts hn_X11_count_X11 hown hK hP 0 rfl rfl 0 (by decide) (hts _ hw_X11_count_f12) (fun _ h9 => h9) rfl dX11_count_114 ?_
    refine va_getN (D := D) (ci := 9) (v := .int s_text_length) (C := RX9) (T := TX9) (N := 2) hx hb hts hn_X11_count_X9 hown hK hP 9 rfl rfl 1 (by decide) (va_Nw.use rfl (hN _ nw_X11_88)) (fun _ h9 => h9) rfl dX11_count_117 ?_
    obtain rfl := pe1 hf
    exact m_iret hx hb hr hlocks hP hS dX11_count_120
  have hf := pbr_f c_12 hf
  refine lv_tableOut (tgt := 121) hx hb dX11_count_1 (by have := lv_neT (a := 0) c_1 (by decide); have := lv_neT (a := 1) c_4 (by decide); have := lv_neT (a := 2) c_5 (by decide); have := lv_neT (a := 3) c_6 (by decide); have := lv_neT (a := 4) c_7 (by decide); have := lv_neT (a := 5) c_8 (by decide); have := lv_neT (a := 6) c_9 (by decide); have := lv_neT (a := 7) c_12 (by decide); omega) (by decide) ?_
  refine lv_iconst (v := (-1 : Int32)) hx hb dX11_count_121 (by decide) ?_
  obtain rfl := pe1 hf
  exact m_iret hx hb hr hlocks hP hS dX11_count_122

/-! ===== OrphanWave.trace()J ===== -/
abbrev rm_X11_trace : Room := { frames := 0, cells := 0, slots := 0, locals := 0 }
abbrev w_X11_trace (a0 : Nat) (q_signs : Nat) (q_text : Nat) (q_ocean : Nat) (q_trees : Nat) (q_found : Nat) (q_images : Nat) (q_search : Nat) (q_stories : Nat) (q_calendar : Nat) (q_draft : Nat) (cA : Nat → ClassId) (s_yearOfNow : Int32) (s_signs_trace : Int64) : va_W := [(a0, .inr (11, [.ref q_text, .ref q_ocean, .ref q_trees, .ref q_found, .ref q_images, .ref q_search, .ref q_stories, .ref q_signs, .ref q_calendar, .ref q_draft, .int s_yearOfNow])), (q_signs, .inr (7, [.ref q_found, .long s_signs_trace]))]
theorem hn_X11_trace_X11 : ∀ w ∈ u_ws RX11 TX11 11, w ∈ wsX11_trace := by decide +kernel
theorem hn_X11_trace_X7 : ∀ w ∈ u_ws RX7 TX7 2, w ∈ wsX11_trace := by decide +kernel
theorem hw_X11_trace_f66 : Cond.fieldLink RX11 66 "OrphanWave" "signs" "LOrphanWave$Signs;" ∈ wsX11_trace := by decide +kernel

def f_X11_trace (s_signs_trace : Int64) : Option ((Int64)) :=
  some (s_signs_trace)

set_option maxRecDepth 100000 in
set_option maxHeartbeats 4000000 in
theorem ct_X11_trace (l : Launch) (D : va_G) (cA : Nat → ClassId) (a0 : Nat) (q_signs : Nat) (q_text : Nat) (q_ocean : Nat) (q_trees : Nat) (q_found : Nat) (q_images : Nat) (q_search : Nat) (q_stories : Nat) (q_calendar : Nat) (q_draft : Nat) (s_yearOfNow : Int32) (s_signs_trace : Int64) (o_r : Int64) (hf : f_X11_trace s_signs_trace = some o_r) : CT l yX11_trace wsX11_trace rm_X11_trace D cA [.ref a0] (w_X11_trace a0 q_signs q_text q_ocean q_trees q_found q_images q_search q_stories q_calendar q_draft cA s_yearOfNow s_signs_trace) (w_X11_trace a0 q_signs q_text q_ocean q_trees q_found q_images q_search q_stories q_calendar q_draft cA s_yearOfNow s_signs_trace) (some (.long o_r)) := by
  refine CT.ofW (cc := cX11_trace) (maxL := 1) (ret := (some .long)) (by decide +kernel) rfl (Nat.le_of_ble_eq_true rfl) ?_
  intro p e s m below meth c A C0 hA hP hD ls hl
  have C0 : MX p s m [.ref a0].toArray meth c cX11_trace 1 wsX11_trace RX11 (some .long) D cA := C0
  have hl : lv_has ls 1 [(0, .ref a0)] := hl
  obtain ⟨hx, hb, hml, hown, hts, hr, hlocks, hX⟩ := id C0
  have hK := hX.1
  have hN := hX.2
  have hS : va_S A s.heap s.heap [] := va_S.rf
  unfold f_X11_trace at hf
  refine lv_aload_n hx hb dX11_trace_0 rfl (lv_at hl 0 rfl) ?_
  refine va_get (D := D) (ci := 11) (v := .ref q_signs) (C := RX11) (T := TX11) (N := 11) hx hb hts hn_X11_trace_X11 hown hK hP 0 rfl rfl 7 (by decide) (hts _ hw_X11_trace_f66) (fun _ h9 => h9) rfl dX11_trace_1 ?_
  refine va_getN (D := D) (ci := 7) (v := .long s_signs_trace) (C := RX7) (T := TX7) (N := 2) hx hb hts hn_X11_trace_X7 hown hK hP 1 rfl rfl 1 (by decide) (va_Nw.use rfl (hN _ nw_X11_373)) (fun _ h9 => h9) rfl dX11_trace_4 ?_
  obtain rfl := pe1 hf
  exact m_lret hx hb hr hlocks hP hS dX11_trace_7
