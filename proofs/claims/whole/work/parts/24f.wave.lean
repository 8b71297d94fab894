/-! ===== OrphanWave.alike()I ===== -/
abbrev rm_X11_alike : Room := { frames := 4, cells := 0, slots := 0, locals := 95 }
abbrev wx_X11_alike (a0 : Nat) (q_trees : Nat) (q_trees_woodCounts : Nat) (q_trees_livingRings : Nat) (q_trees_ends : Nat) (q_trees_woodRings : Nat) (q_text : Nat) (q_ocean : Nat) (q_found : Nat) (q_images : Nat) (q_search : Nat) (q_stories : Nat) (q_signs : Nat) (q_calendar : Nat) (q_draft : Nat) (r_trees_woodRings : Nat → Nat) (cA : Nat → ClassId) (s_yearOfNow : Int32) (s_trees_livingCount : Int32) (s_trees_firstYear : Int32) (s_trees_woodCounts : Nat → Int32) (s_trees_livingRings : Nat → Int32) (s_trees_ends : Nat → Int32) (s_trees_woodRings : Nat → Nat → Int32) : va_W := [(a0, .inr (11, [.ref q_text, .ref q_ocean, .ref q_trees, .ref q_found, .ref q_images, .ref q_search, .ref q_stories, .ref q_signs, .ref q_calendar, .ref q_draft, .int s_yearOfNow])), (q_trees, .inr (10, [.ref q_trees_livingRings, .ref q_trees_woodRings, .ref q_trees_woodCounts, .ref q_trees_ends, .int s_trees_livingCount, .int s_trees_firstYear])), (q_trees_woodCounts, .inl (cA 1, 4, .inl s_trees_woodCounts)), (q_trees_livingRings, .inl (cA 1, 60, .inl s_trees_livingRings)), (q_trees_ends, .inl (cA 1, 4, .inl s_trees_ends)), (q_trees_woodRings, .inl (cA 5, 4, .inr (.inr (.inr (.inr (gro 4 r_trees_woodRings))))))]
abbrev w_X11_alike (a0 : Nat) (q_trees : Nat) (q_trees_woodCounts : Nat) (q_trees_livingRings : Nat) (q_trees_ends : Nat) (q_trees_woodRings : Nat) (q_text : Nat) (q_ocean : Nat) (q_found : Nat) (q_images : Nat) (q_search : Nat) (q_stories : Nat) (q_signs : Nat) (q_calendar : Nat) (q_draft : Nat) (r_trees_woodRings : Nat → Nat) (cA : Nat → ClassId) (s_yearOfNow : Int32) (s_trees_livingCount : Int32) (s_trees_firstYear : Int32) (s_trees_woodCounts : Nat → Int32) (s_trees_livingRings : Nat → Int32) (s_trees_ends : Nat → Int32) (s_trees_woodRings : Nat → Nat → Int32) : va_W := [(a0, .inr (11, [.ref q_text, .ref q_ocean, .ref q_trees, .ref q_found, .ref q_images, .ref q_search, .ref q_stories, .ref q_signs, .ref q_calendar, .ref q_draft, .int s_yearOfNow])), (q_trees, .inr (10, [.ref q_trees_livingRings, .ref q_trees_woodRings, .ref q_trees_woodCounts, .ref q_trees_ends, .int s_trees_livingCount, .int s_trees_firstYear])), (q_trees_woodCounts, .inl (cA 1, 4, .inl s_trees_woodCounts)), (q_trees_livingRings, .inl (cA 1, 60, .inl s_trees_livingRings)), (q_trees_ends, .inl (cA 1, 4, .inl s_trees_ends)), (q_trees_woodRings, .inl (cA 5, 4, .inr (.inr (.inr (.inr (gro 4 r_trees_woodRings))))))] ++ grw 4 r_trees_woodRings (cA 1) 30 s_trees_woodRings
theorem hn_X11_alike_X11 : ∀ w ∈ u_ws RX11 TX11 11, w ∈ wsX11_alike := by decide +kernel
theorem hw_X11_alike_f26 : Cond.fieldLink RX11 26 "OrphanWave" "trees" "LOrphanWave$Trees;" ∈ wsX11_alike := by decide +kernel

def f_X11_alike (s_trees_livingCount : Int32) (s_trees_firstYear : Int32) (s_trees_woodCounts : Nat → Int32) (s_trees_livingRings : Nat → Int32) (s_trees_ends : Nat → Int32) (s_trees_woodRings : Nat → Nat → Int32) : Option ((Int32)) :=
  pcl (f_X10_sharedDeath s_trees_livingCount s_trees_firstYear s_trees_woodCounts s_trees_livingRings s_trees_ends s_trees_woodRings) (fun r_1 => (
  some (r_1)))

set_option maxRecDepth 100000 in
set_option maxHeartbeats 4000000 in
theorem ct_X11_alike (l : Launch) (D : va_G) (cA : Nat → ClassId) (a0 : Nat) (q_trees : Nat) (q_trees_woodCounts : Nat) (q_trees_livingRings : Nat) (q_trees_ends : Nat) (q_trees_woodRings : Nat) (q_text : Nat) (q_ocean : Nat) (q_found : Nat) (q_images : Nat) (q_search : Nat) (q_stories : Nat) (q_signs : Nat) (q_calendar : Nat) (q_draft : Nat) (r_trees_woodRings : Nat → Nat) (s_yearOfNow : Int32) (s_trees_livingCount : Int32) (s_trees_firstYear : Int32) (s_trees_woodCounts : Nat → Int32) (s_trees_livingRings : Nat → Int32) (s_trees_ends : Nat → Int32) (s_trees_woodRings : Nat → Nat → Int32) (o_r : Int32) (hf : f_X11_alike s_trees_livingCount s_trees_firstYear s_trees_woodCounts s_trees_livingRings s_trees_ends s_trees_woodRings = some o_r) : CT l yX11_alike wsX11_alike rm_X11_alike D cA [.ref a0] (w_X11_alike a0 q_trees q_trees_woodCounts q_trees_livingRings q_trees_ends q_trees_woodRings q_text q_ocean q_found q_images q_search q_stories q_signs q_calendar q_draft r_trees_woodRings cA s_yearOfNow s_trees_livingCount s_trees_firstYear s_trees_woodCounts s_trees_livingRings s_trees_ends s_trees_woodRings) (w_X11_alike a0 q_trees q_trees_woodCounts q_trees_livingRings q_trees_ends q_trees_woodRings q_text q_ocean q_found q_images q_search q_stories q_signs q_calendar q_draft r_trees_woodRings cA s_yearOfNow s_trees_livingCount s_trees_firstYear s_trees_woodCounts s_trees_livingRings s_trees_ends s_trees_woodRings) (some (.int o_r)) := by
  refine CT.ofW (cc := cX11_alike) (maxL := 1) (ret := (some .int)) (by decide +kernel) rfl (Nat.le_of_ble_eq_true rfl) ?_
  intro p e s m below meth c A C0 hA hP hD ls hl
  have C0 : MX p s m [.ref a0].toArray meth c cX11_alike 1 wsX11_alike RX11 (some .int) D cA := C0
  have hl : lv_has ls 1 [(0, .ref a0)] := hl
  obtain ⟨hx, hb, hml, hown, hts, hr, hlocks, hX⟩ := id C0
  have hK := hX.1
  have hN := hX.2
  have hS : va_S A s.heap s.heap [] := va_S.rf
  unfold f_X11_alike at hf
  refine lv_aload_n hx hb dX11_alike_0 rfl (lv_at hl 0 rfl) ?_
  refine va_get (D := D) (ci := 11) (v := .ref q_trees) (C := RX11) (T := TX11) (N := 11) hx hb hts hn_X11_alike_X11 hown hK hP 0 rfl rfl 2 (by decide) (hts _ hw_X11_alike_f26) (fun _ h9 => h9) rfl dX11_alike_1 ?_
  obtain ⟨r_1, hc_2, hf⟩ := pcl_e hf
  refine m_callV2 (As := []) (rest := []) ⟨hx, hb, hml, hown, hts⟩ hX (ct_X10_sharedDeath l D cA q_trees q_trees_woodCounts q_trees_livingRings q_trees_ends q_trees_woodRings r_trees_woodRings s_trees_livingCount s_trees_firstYear s_trees_woodCounts s_trees_livingRings s_trees_ends s_trees_woodRings r_1 hc_2) (cwV 0 hts gX11_alike_X10_sharedDeath rfl rfl rfl (by decide +kernel) ⟨Nat.le_of_ble_eq_true rfl, Nat.le_of_ble_eq_true rfl⟩) hP hD hS hA [1, 2, 3, 4, 5, 6, 7, 8, 9] [0] 10 (by decide) rfl rfl (WS' := (w_X11_alike a0 q_trees q_trees_woodCounts q_trees_livingRings q_trees_ends q_trees_woodRings q_text q_ocean q_found q_images q_search q_stories q_signs q_calendar q_draft r_trees_woodRings cA s_yearOfNow s_trees_livingCount s_trees_firstYear s_trees_woodCounts s_trees_livingRings s_trees_ends s_trees_woodRings)) (WR := [(a0, .inr (11, [.ref q_text, .ref q_ocean, .ref q_trees, .ref q_found, .ref q_images, .ref q_search, .ref q_stories, .ref q_signs, .ref q_calendar, .ref q_draft, .int s_yearOfNow]))]) rfl rfl rfl rfl (by decide) (by decide) 1 10 rfl rfl rfl hl.1 rfl (st' := [.int r_1]) rfl (Nat.le_of_ble_eq_true rfl) ⟨Nat.zero_le _, Nat.zero_le _⟩ dX11_alike_4 (fun H locs hP hD hS => ?_)
  obtain rfl := pe1 hf
  exact m_iret hx hb hr hlocks hP hS dX11_alike_7

/-! ===== OrphanWave.sheet(III)I ===== -/
abbrev rm_X11_sheet : Room := { frames := 2, cells := 0, slots := 0, locals := 42 }
abbrev w_X11_sheet (a0 : Nat) (q_found : Nat) (q_found_sheets : Nat) (q_found_sheets_marshes : Nat) (q_found_sheets_olds : Nat) (q_found_sheets_youngs : Nat) (q_text : Nat) (q_ocean : Nat) (q_trees : Nat) (q_images : Nat) (q_search : Nat) (q_stories : Nat) (q_signs : Nat) (q_calendar : Nat) (q_draft : Nat) (q_found_books : Nat) (q_found_known : Nat) (q_found_weights : Nat) (cA : Nat → ClassId) (s_yearOfNow : Int32) (s_found_dugMarshes : Int32) (s_found_kept : Int32) (s_found_sheets_count : Int32) (s_found_sheets_marshes : Nat → Int32) (s_found_sheets_olds : Nat → Int32) (s_found_sheets_youngs : Nat → Int32) : va_W := [(a0, .inr (11, [.ref q_text, .ref q_ocean, .ref q_trees, .ref q_found, .ref q_images, .ref q_search, .ref q_stories, .ref q_signs, .ref q_calendar, .ref q_draft, .int s_yearOfNow])), (q_found, .inr (2, [.ref q_found_books, .ref q_found_sheets, .ref q_found_known, .ref q_found_weights, .int s_found_dugMarshes, .int s_found_kept])), (q_found_sheets, .inr (6, [.ref q_found_sheets_marshes, .ref q_found_sheets_olds, .ref q_found_sheets_youngs, .int s_found_sheets_count])), (q_found_sheets_marshes, .inl (cA 1, 12, .inl s_found_sheets_marshes)), (q_found_sheets_olds, .inl (cA 1, 12, .inl s_found_sheets_olds)), (q_found_sheets_youngs, .inl (cA 1, 12, .inl s_found_sheets_youngs))]
theorem hn_X11_sheet_X11 : ∀ w ∈ u_ws RX11 TX11 11, w ∈ wsX11_sheet := by decide +kernel
theorem hn_X11_sheet_X2 : ∀ w ∈ u_ws RX2 TX2 6, w ∈ wsX11_sheet := by decide +kernel
theorem hn_X11_sheet_X6 : ∀ w ∈ u_ws RX6 TX6 4, w ∈ wsX11_sheet := by decide +kernel
theorem hw_X11_sheet_f33 : Cond.fieldLink RX11 33 "OrphanWave" "found" "LOrphanWave$Findings;" ∈ wsX11_sheet := by decide +kernel

def f_X11_sheet (x1 : Int32) (x2 : Int32) (x3 : Int32) (s_found_sheets_count : Int32) (s_found_sheets_marshes : Nat → Int32) (s_found_sheets_olds : Nat → Int32) (s_found_sheets_youngs : Nat → Int32) : Option ((Int32) × (Int32) × (Nat → Int32) × (Nat → Int32) × (Nat → Int32)) :=
  pcl (f_X11_isMarsh x1) (fun r_1 => (
  pbr (r_1 = 0)
    (some ((-1 : Int32), s_found_sheets_count, s_found_sheets_marshes, s_found_sheets_olds, s_found_sheets_youngs))
    (pcl (f_X11_isSpan x2 x3 (0 : Int32) (9999 : Int32)) (fun r_4 => (
    pbr (r_4 = 0)
      (some ((-1 : Int32), s_found_sheets_count, s_found_sheets_marshes, s_found_sheets_olds, s_found_sheets_youngs))
      (pbr (s_found_sheets_count < (12 : Int32))
        (pcl (f_X6_add x1 x2 x3 s_found_sheets_count s_found_sheets_marshes s_found_sheets_olds s_found_sheets_youngs) (fun (r_8, count_9, marshes_10, olds_11, youngs_12) => (
        some (r_8, count_9, marshes_10, olds_11, youngs_12))))
        (some ((-3 : Int32), s_found_sheets_count, s_found_sheets_marshes, s_found_sheets_olds, s_found_sheets_youngs))))))))

set_option maxRecDepth 100000 in
set_option maxHeartbeats 4000000 in
theorem ct_X11_sheet (l : Launch) (D : va_G) (cA : Nat → ClassId) (x1 : Int32) (x2 : Int32) (x3 : Int32) (a0 : Nat) (q_found : Nat) (q_found_sheets : Nat) (q_found_sheets_marshes : Nat) (q_found_sheets_olds : Nat) (q_found_sheets_youngs : Nat) (q_text : Nat) (q_ocean : Nat) (q_trees : Nat) (q_images : Nat) (q_search : Nat) (q_stories : Nat) (q_signs : Nat) (q_calendar : Nat) (q_draft : Nat) (q_found_books : Nat) (q_found_known : Nat) (q_found_weights : Nat) (s_yearOfNow : Int32) (s_found_dugMarshes : Int32) (s_found_kept : Int32) (s_found_sheets_count : Int32) (s_found_sheets_marshes : Nat → Int32) (s_found_sheets_olds : Nat → Int32) (s_found_sheets_youngs : Nat → Int32) (o_r : Int32) (o_found_sheets_count : Int32) (o_found_sheets_marshes : Nat → Int32) (o_found_sheets_olds : Nat → Int32) (o_found_sheets_youngs : Nat → Int32) (hf : f_X11_sheet x1 x2 x3 s_found_sheets_count s_found_sheets_marshes s_found_sheets_olds s_found_sheets_youngs = some (o_r, o_found_sheets_count, o_found_sheets_marshes, o_found_sheets_olds, o_found_sheets_youngs)) : CT l yX11_sheet wsX11_sheet rm_X11_sheet D cA [.ref a0, .int x1, .int x2, .int x3] (w_X11_sheet a0 q_found q_found_sheets q_found_sheets_marshes q_found_sheets_olds q_found_sheets_youngs q_text q_ocean q_trees q_images q_search q_stories q_signs q_calendar q_draft q_found_books q_found_known q_found_weights cA s_yearOfNow s_found_dugMarshes s_found_kept s_found_sheets_count s_found_sheets_marshes s_found_sheets_olds s_found_sheets_youngs) (w_X11_sheet a0 q_found q_found_sheets q_found_sheets_marshes q_found_sheets_olds q_found_sheets_youngs q_text q_ocean q_trees q_images q_search q_stories q_signs q_calendar q_draft q_found_books q_found_known q_found_weights cA s_yearOfNow s_found_dugMarshes s_found_kept o_found_sheets_count o_found_sheets_marshes o_found_sheets_olds o_found_sheets_youngs) (some (.int o_r)) := by
  refine CT.ofW (cc := cX11_sheet) (maxL := 4) (ret := (some .int)) (by decide +kernel) rfl (Nat.le_of_ble_eq_true rfl) ?_
  intro p e s m below meth c A C0 hA hP hD ls hl
  have C0 : MX p s m [.ref a0, .int x1, .int x2, .int x3].toArray meth c cX11_sheet 4 wsX11_sheet RX11 (some .int) D cA := C0
  have hl : lv_has ls 4 [(0, .ref a0), (1, .int x1), (2, .int x2), (3, .int x3)] := hl
  obtain ⟨hx, hb, hml, hown, hts, hr, hlocks, hX⟩ := id C0
  have hK := hX.1
  have hN := hX.2
  have hS : va_S A s.heap s.heap [] := va_S.rf
  unfold f_X11_sheet at hf
  refine lv_iload_n hx hb dX11_sheet_0 rfl (lv_at hl 1 rfl) ?_
  obtain ⟨r_1, hc_2, hf⟩ := pcl_e hf
  refine m_callS2 (As := [.int x1]) (rest := []) ⟨hx, hb, hml, hown, hts⟩ hX (ct_X11_isMarsh l D cA x1 r_1 hc_2) (va_cwS 1 hts gX11_sheet_X11_isMarsh rfl rfl rfl (by decide +kernel) ⟨Nat.le_of_ble_eq_true rfl, Nat.le_of_ble_eq_true rfl⟩) hP hD hS hA [] [0, 1, 2, 3, 4, 5] 6 (by decide) rfl rfl (WS' := (w_X11_sheet a0 q_found q_found_sheets q_found_sheets_marshes q_found_sheets_olds q_found_sheets_youngs q_text q_ocean q_trees q_images q_search q_stories q_signs q_calendar q_draft q_found_books q_found_known q_found_weights cA s_yearOfNow s_found_dugMarshes s_found_kept s_found_sheets_count s_found_sheets_marshes s_found_sheets_olds s_found_sheets_youngs)) (WR := [(a0, .inr (11, [.ref q_text, .ref q_ocean, .ref q_trees, .ref q_found, .ref q_images, .ref q_search, .ref q_stories, .ref q_signs, .ref q_calendar, .ref q_draft, .int s_yearOfNow])), (q_found, .inr (2, [.ref q_found_books, .ref q_found_sheets, .ref q_found_known, .ref q_found_weights, .int s_found_dugMarshes, .int s_found_kept])), (q_found_sheets, .inr (6, [.ref q_found_sheets_marshes, .ref q_found_sheets_olds, .ref q_found_sheets_youngs, .int s_found_sheets_count])), (q_found_sheets_marshes, .inl (cA 1, 12, .inl s_found_sheets_marshes)), (q_found_sheets_olds, .inl (cA 1, 12, .inl s_found_sheets_olds)), (q_found_sheets_youngs, .inl (cA 1, 12, .inl s_found_sheets_youngs))]) rfl rfl rfl rfl (by decide) (by decide) rfl hl.1 rfl (st' := [.int r_1]) rfl (Nat.le_of_ble_eq_true rfl) ⟨Nat.zero_le _, Nat.zero_le _⟩ dX11_sheet_1 (fun H locs hP hD hS => ?_)
  refine lv_if_eq (tgt := 19) hx hb dX11_sheet_4 (by decide) (fun c_3 => ?_) (fun c_3 => ?_)
  · have hf := pbr_t c_3 hf
    refine lv_iconst (v := (-1 : Int32)) hx hb dX11_sheet_19 (by decide) ?_
    obtain ⟨rfl, rfl, rfl, rfl, rfl⟩ := pe5 hf
    exact m_iret hx hb hr hlocks hP hS dX11_sheet_20
  have hf := pbr_f c_3 hf
  refine lv_iload_n hx hb dX11_sheet_7 rfl (lv_at hl 2 rfl) ?_
  refine lv_iload_n hx hb dX11_sheet_8 rfl (lv_at hl 3 rfl) ?_
  refine lv_iconst (v := (0 : Int32)) hx hb dX11_sheet_9 (by decide) ?_
  refine lv_sipush (v := (9999 : Int32)) hx hb dX11_sheet_10 (by decide) ?_
  obtain ⟨r_4, hc_5, hf⟩ := pcl_e hf
  refine m_callS2 (As := [.int x2, .int x3, .int (0 : Int32), .int (9999 : Int32)]) (rest := []) ⟨hx, hb, hml, hown, hts⟩ hX (ct_X11_isSpan l D cA x2 x3 (0 : Int32) (9999 : Int32) r_4 hc_5) (va_cwS 4 hts gX11_sheet_X11_isSpan rfl rfl rfl (by decide +kernel) ⟨Nat.le_of_ble_eq_true rfl, Nat.le_of_ble_eq_true rfl⟩) hP hD hS hA [] [0, 1, 2, 3, 4, 5] 6 (by decide) rfl rfl (WS' := (w_X11_sheet a0 q_found q_found_sheets q_found_sheets_marshes q_found_sheets_olds q_found_sheets_youngs q_text q_ocean q_trees q_images q_search q_stories q_signs q_calendar q_draft q_found_books q_found_known q_found_weights cA s_yearOfNow s_found_dugMarshes s_found_kept s_found_sheets_count s_found_sheets_marshes s_found_sheets_olds s_found_sheets_youngs)) (WR := [(a0, .inr (11, [.ref q_text, .ref q_ocean, .ref q_trees, .ref q_found, .ref q_images, .ref q_search, .ref q_stories, .ref q_signs, .ref q_calendar, .ref q_draft, .int s_yearOfNow])), (q_found, .inr (2, [.ref q_found_books, .ref q_found_sheets, .ref q_found_known, .ref q_found_weights, .int s_found_dugMarshes, .int s_found_kept])), (q_found_sheets, .inr (6, [.ref q_found_sheets_marshes, .ref q_found_sheets_olds, .ref q_found_sheets_youngs, .int s_found_sheets_count])), (q_found_sheets_marshes, .inl (cA 1, 12, .inl s_found_sheets_marshes)), (q_found_sheets_olds, .inl (cA 1, 12, .inl s_found_sheets_olds)), (q_found_sheets_youngs, .inl (cA 1, 12, .inl s_found_sheets_youngs))]) rfl rfl rfl rfl (by decide) (by decide) rfl hl.1 rfl (st' := [.int r_4]) rfl (Nat.le_of_ble_eq_true rfl) ⟨Nat.zero_le _, Nat.zero_le _⟩ dX11_sheet_13 (fun H locs hP hD hS => ?_)
  refine lv_if_ne (tgt := 21) hx hb dX11_sheet_16 (by decide) (fun c_6 => ?_) (fun c_6 => ?_)
  · have hf := pbr_f c_6 hf
    refine lv_aload_n hx hb dX11_sheet_21 rfl (lv_at hl 0 rfl) ?_
    refine va_get (D := D) (ci := 11) (v := .ref q_found) (C := RX11) (T := TX11) (N := 11) hx hb hts hn_X11_sheet_X11 hown hK hP 0 rfl rfl 3 (by decide) (hts _ hw_X11_sheet_f33) (fun _ h9 => h9) rfl dX11_sheet_22 ?_
    refine va_getN (D := D) (ci := 2) (v := .ref q_found_sheets) (C := RX2) (T := TX2) (N := 6) hx hb hts hn_X11_sheet_X2 hown hK hP 1 rfl rfl 1 (by decide) (va_Nw.use rfl (hN _ nw_X11_250)) (fun _ h9 => h9) rfl dX11_sheet_25 ?_
    refine va_getN (D := D) (ci := 6) (v := .int s_found_sheets_count) (C := RX6) (T := TX6) (N := 4) hx hb hts hn_X11_sheet_X6 hown hK hP 2 rfl rfl 3 (by decide) (va_Nw.use rfl (hN _ nw_X11_254)) (fun _ h9 => h9) rfl dX11_sheet_28 ?_
    refine lv_bipush (v := (12 : Int32)) hx hb dX11_sheet_31 (by decide) ?_
    refine lv_icmp_lt (tgt := 41) hx hb dX11_sheet_33 (by decide) (fun c_7 => ?_) (fun c_7 => ?_)
    · have hf := pbr_t c_7 hf
      refine lv_aload_n hx hb dX11_sheet_41 rfl (lv_at hl 0 rfl) ?_
      refine va_get (D := D) (ci := 11) (v := .ref q_found) (C := RX11) (T := TX11) (N := 11) hx hb hts hn_X11_sheet_X11 hown hK hP 0 rfl rfl 3 (by decide) (hts _ hw_X11_sheet_f33) (fun _ h9 => h9) rfl dX11_sheet_42 ?_
      refine va_getN (D := D) (ci := 2) (v := .ref q_found_sheets) (C := RX2) (T := TX2) (N := 6) hx hb hts hn_X11_sheet_X2 hown hK hP 1 rfl rfl 1 (by decide) (va_Nw.use rfl (hN _ nw_X11_250)) (fun _ h9 => h9) rfl dX11_sheet_45 ?_
      refine lv_iload_n hx hb dX11_sheet_48 rfl (lv_at hl 1 rfl) ?_
      refine lv_iload_n hx hb dX11_sheet_49 rfl (lv_at hl 2 rfl) ?_
      refine lv_iload_n hx hb dX11_sheet_50 rfl (lv_at hl 3 rfl) ?_
      obtain ⟨⟨r_8, count_9, marshes_10, olds_11, youngs_12⟩, hc_13, hf⟩ := pcl_e hf
      refine m_callV2 (As := [.int x1, .int x2, .int x3]) (rest := []) ⟨hx, hb, hml, hown, hts⟩ hX (ct_X6_add l D cA x1 x2 x3 q_found_sheets q_found_sheets_marshes q_found_sheets_olds q_found_sheets_youngs s_found_sheets_count s_found_sheets_marshes s_found_sheets_olds s_found_sheets_youngs r_8 count_9 marshes_10 olds_11 youngs_12 hc_13) (cwV 3 hts gX11_sheet_X6_add rfl rfl rfl (by decide +kernel) ⟨Nat.le_of_ble_eq_true rfl, Nat.le_of_ble_eq_true rfl⟩) hP hD hS hA [2, 3, 4, 5] [0, 1] 6 (by decide) rfl rfl (WS' := (w_X11_sheet a0 q_found q_found_sheets q_found_sheets_marshes q_found_sheets_olds q_found_sheets_youngs q_text q_ocean q_trees q_images q_search q_stories q_signs q_calendar q_draft q_found_books q_found_known q_found_weights cA s_yearOfNow s_found_dugMarshes s_found_kept count_9 marshes_10 olds_11 youngs_12)) (WR := [(a0, .inr (11, [.ref q_text, .ref q_ocean, .ref q_trees, .ref q_found, .ref q_images, .ref q_search, .ref q_stories, .ref q_signs, .ref q_calendar, .ref q_draft, .int s_yearOfNow])), (q_found, .inr (2, [.ref q_found_books, .ref q_found_sheets, .ref q_found_known, .ref q_found_weights, .int s_found_dugMarshes, .int s_found_kept]))]) rfl rfl rfl rfl (by decide) (by decide) 2 6 rfl rfl rfl hl.1 rfl (st' := [.int r_8]) rfl (Nat.le_of_ble_eq_true rfl) ⟨Nat.zero_le _, Nat.zero_le _⟩ dX11_sheet_51 (fun H locs hP hD hS => ?_)
      obtain ⟨rfl, rfl, rfl, rfl, rfl⟩ := pe5 hf
      exact m_iret hx hb hr hlocks hP hS dX11_sheet_54
    have hf := pbr_f c_7 hf
    refine lv_bipush (v := (-3 : Int32)) hx hb dX11_sheet_36 (by decide) ?_
    refine lv_goto (tgt := 54) hx hb dX11_sheet_38 (by decide) ?_
    obtain ⟨rfl, rfl, rfl, rfl, rfl⟩ := pe5 hf
    exact m_iret hx hb hr hlocks hP hS dX11_sheet_54
  have hf := pbr_t c_6 hf
  refine lv_iconst (v := (-1 : Int32)) hx hb dX11_sheet_19 (by decide) ?_
  obtain ⟨rfl, rfl, rfl, rfl, rfl⟩ := pe5 hf
  exact m_iret hx hb hr hlocks hP hS dX11_sheet_20

/-! ===== OrphanWave.together(II)I ===== -/
abbrev rm_X11_together : Room := { frames := 2, cells := 0, slots := 0, locals := 36 }
abbrev w_X11_together (a0 : Nat) (q_found : Nat) (q_found_sheets : Nat) (q_found_sheets_olds : Nat) (q_found_sheets_youngs : Nat) (q_text : Nat) (q_ocean : Nat) (q_trees : Nat) (q_images : Nat) (q_search : Nat) (q_stories : Nat) (q_signs : Nat) (q_calendar : Nat) (q_draft : Nat) (q_found_books : Nat) (q_found_known : Nat) (q_found_weights : Nat) (q_found_sheets_marshes : Nat) (cA : Nat → ClassId) (s_yearOfNow : Int32) (s_found_dugMarshes : Int32) (s_found_kept : Int32) (s_found_sheets_count : Int32) (s_found_sheets_olds : Nat → Int32) (s_found_sheets_youngs : Nat → Int32) : va_W := [(a0, .inr (11, [.ref q_text, .ref q_ocean, .ref q_trees, .ref q_found, .ref q_images, .ref q_search, .ref q_stories, .ref q_signs, .ref q_calendar, .ref q_draft, .int s_yearOfNow])), (q_found, .inr (2, [.ref q_found_books, .ref q_found_sheets, .ref q_found_known, .ref q_found_weights, .int s_found_dugMarshes, .int s_found_kept])), (q_found_sheets, .inr (6, [.ref q_found_sheets_marshes, .ref q_found_sheets_olds, .ref q_found_sheets_youngs, .int s_found_sheets_count])), (q_found_sheets_olds, .inl (cA 1, 12, .inl s_found_sheets_olds)), (q_found_sheets_youngs, .inl (cA 1, 12, .inl s_found_sheets_youngs))]
theorem hn_X11_together_X11 : ∀ w ∈ u_ws RX11 TX11 11, w ∈ wsX11_together := by decide +kernel
theorem hn_X11_together_X2 : ∀ w ∈ u_ws RX2 TX2 6, w ∈ wsX11_together := by decide +kernel
theorem hw_X11_together_f33 : Cond.fieldLink RX11 33 "OrphanWave" "found" "LOrphanWave$Findings;" ∈ wsX11_together := by decide +kernel

def f_X11_together (x1 : Int32) (x2 : Int32) (s_found_sheets_count : Int32) (s_found_sheets_olds : Nat → Int32) (s_found_sheets_youngs : Nat → Int32) : Option ((Int32)) :=
  pcl (f_X6_all s_found_sheets_count) (fun r_1 => (
  plt ((x1 &&& r_1) : Int32) (fun x3_3 => (
  pbr (x3_3 = 0)
    (some ((-1 : Int32)))
    (pcl (f_X11_isBit x2) (fun r_5 => (
    pbr (r_5 = 0)
      (some ((-1 : Int32)))
      (pcl (f_X6_firstShared x3_3 s_found_sheets_count s_found_sheets_olds) (fun r_8 => (
      pcl (f_X6_lastShared x3_3 s_found_sheets_count s_found_sheets_youngs) (fun r_10 => (
      pbr (r_8 ≤ r_10)
        (pbr (x2 = 0)
          (some (r_8))
          (some (r_10)))
        (some ((-9 : Int32)))))))))))))))

set_option maxRecDepth 100000 in
set_option maxHeartbeats 4000000 in
theorem ct_X11_together (l : Launch) (D : va_G) (cA : Nat → ClassId) (x1 : Int32) (x2 : Int32) (a0 : Nat) (q_found : Nat) (q_found_sheets : Nat) (q_found_sheets_olds : Nat) (q_found_sheets_youngs : Nat) (q_text : Nat) (q_ocean : Nat) (q_trees : Nat) (q_images : Nat) (q_search : Nat) (q_stories : Nat) (q_signs : Nat) (q_calendar : Nat) (q_draft : Nat) (q_found_books : Nat) (q_found_known : Nat) (q_found_weights : Nat) (q_found_sheets_marshes : Nat) (s_yearOfNow : Int32) (s_found_dugMarshes : Int32) (s_found_kept : Int32) (s_found_sheets_count : Int32) (s_found_sheets_olds : Nat → Int32) (s_found_sheets_youngs : Nat → Int32) (o_r : Int32) (hf : f_X11_together x1 x2 s_found_sheets_count s_found_sheets_olds s_found_sheets_youngs = some o_r) : CT l yX11_together wsX11_together rm_X11_together D cA [.ref a0, .int x1, .int x2] (w_X11_together a0 q_found q_found_sheets q_found_sheets_olds q_found_sheets_youngs q_text q_ocean q_trees q_images q_search q_stories q_signs q_calendar q_draft q_found_books q_found_known q_found_weights q_found_sheets_marshes cA s_yearOfNow s_found_dugMarshes s_found_kept s_found_sheets_count s_found_sheets_olds s_found_sheets_youngs) (w_X11_together a0 q_found q_found_sheets q_found_sheets_olds q_found_sheets_youngs q_text q_ocean q_trees q_images q_search q_stories q_signs q_calendar q_draft q_found_books q_found_known q_found_weights q_found_sheets_marshes cA s_yearOfNow s_found_dugMarshes s_found_kept s_found_sheets_count s_found_sheets_olds s_found_sheets_youngs) (some (.int o_r)) := by
  refine CT.ofW (cc := cX11_together) (maxL := 6) (ret := (some .int)) (by decide +kernel) rfl (Nat.le_of_ble_eq_true rfl) ?_
  intro p e s m below meth c A C0 hA hP hD ls hl
  have C0 : MX p s m [.ref a0, .int x1, .int x2].toArray meth c cX11_together 6 wsX11_together RX11 (some .int) D cA := C0
  have hl : lv_has ls 6 [(0, .ref a0), (1, .int x1), (2, .int x2)] := hl
  obtain ⟨hx, hb, hml, hown, hts, hr, hlocks, hX⟩ := id C0
  have hK := hX.1
  have hN := hX.2
  have hS : va_S A s.heap s.heap [] := va_S.rf
  unfold f_X11_together at hf
  refine lv_iload_n hx hb dX11_together_0 rfl (lv_at hl 1 rfl) ?_
  refine lv_aload_n hx hb dX11_together_1 rfl (lv_at hl 0 rfl) ?_
  refine va_get (D := D) (ci := 11) (v := .ref q_found) (C := RX11) (T := TX11) (N := 11) hx hb hts hn_X11_together_X11 hown hK hP 0 rfl rfl 3 (by decide) (hts _ hw_X11_together_f33) (fun _ h9 => h9) rfl dX11_together_2 ?_
  refine va_getN (D := D) (ci := 2) (v := .ref q_found_sheets) (C := RX2) (T := TX2) (N := 6) hx hb hts hn_X11_together_X2 hown hK hP 1 rfl rfl 1 (by decide) (va_Nw.use rfl (hN _ nw_X11_250)) (fun _ h9 => h9) rfl dX11_together_5 ?_
  obtain ⟨r_1, hc_2, hf⟩ := pcl_e hf
  refine m_callV2 (As := []) (rest := [.int x1]) ⟨hx, hb, hml, hown, hts⟩ hX (ct_X6_all l D cA q_found_sheets q_found_sheets_marshes q_found_sheets_olds q_found_sheets_youngs s_found_sheets_count r_1 hc_2) (cwV 0 hts gX11_together_X6_all rfl rfl rfl (by decide +kernel) ⟨Nat.le_of_ble_eq_true rfl, Nat.le_of_ble_eq_true rfl⟩) hP hD hS hA [2] [0, 1, 3, 4] 5 (by decide) rfl rfl (WS' := (w_X11_together a0 q_found q_found_sheets q_found_sheets_olds q_found_sheets_youngs q_text q_ocean q_trees q_images q_search q_stories q_signs q_calendar q_draft q_found_books q_found_known q_found_weights q_found_sheets_marshes cA s_yearOfNow s_found_dugMarshes s_found_kept s_found_sheets_count s_found_sheets_olds s_found_sheets_youngs)) (WR := [(a0, .inr (11, [.ref q_text, .ref q_ocean, .ref q_trees, .ref q_found, .ref q_images, .ref q_search, .ref q_stories, .ref q_signs, .ref q_calendar, .ref q_draft, .int s_yearOfNow])), (q_found, .inr (2, [.ref q_found_books, .ref q_found_sheets, .ref q_found_known, .ref q_found_weights, .int s_found_dugMarshes, .int s_found_kept])), (q_found_sheets_olds, .inl (cA 1, 12, .inl s_found_sheets_olds)), (q_found_sheets_youngs, .inl (cA 1, 12, .inl s_found_sheets_youngs))]) rfl rfl rfl rfl (by decide) (by decide) 2 6 rfl rfl rfl hl.1 rfl (st' := [.int r_1, .int x1]) rfl (Nat.le_of_ble_eq_true rfl) ⟨Nat.zero_le _, Nat.zero_le _⟩ dX11_together_8 (fun H locs hP hD hS => ?_)
  refine lv_iand hx hb dX11_together_11 ?_
  refine lv_topi (fun x3_3 ex3_3 => ?_)
  have hf := plt_e ex3_3 hf
  refine lv_istore_n (lv' := [(3, .int x3_3), (0, .ref a0), (1, .int x1), (2, .int x2)]) hx hb dX11_together_12 rfl hl (by decide) rfl (fun ls hl => ?_)
  refine lv_iload_n hx hb dX11_together_13 rfl (lv_at hl 0 rfl) ?_
  refine lv_if_eq (tgt := 24) hx hb dX11_together_14 (by decide) (fun c_4 => ?_) (fun c_4 => ?_)
  · have hf := pbr_t c_4 hf
    refine lv_iconst (v := (-1 : Int32)) hx hb dX11_together_24 (by decide) ?_
    obtain rfl := pe1 hf
    exact m_iret hx hb hr hlocks hP hS dX11_together_25
  have hf := pbr_f c_4 hf
  refine lv_iload_n hx hb dX11_together_17 rfl (lv_at hl 3 rfl) ?_
  obtain ⟨r_5, hc_6, hf⟩ := pcl_e hf
  refine m_callS2 (As := [.int x2]) (rest := []) ⟨hx, hb, hml, hown, hts⟩ hX (ct_X11_isBit l D cA x2 r_5 hc_6) (va_cwS 1 hts gX11_together_X11_isBit rfl rfl rfl (by decide +kernel) ⟨Nat.le_of_ble_eq_true rfl, Nat.le_of_ble_eq_true rfl⟩) hP hD hS hA [] [0, 1, 2, 3, 4] 5 (by decide) rfl rfl (WS' := (w_X11_together a0 q_found q_found_sheets q_found_sheets_olds q_found_sheets_youngs q_text q_ocean q_trees q_images q_search q_stories q_signs q_calendar q_draft q_found_books q_found_known q_found_weights q_found_sheets_marshes cA s_yearOfNow s_found_dugMarshes s_found_kept s_found_sheets_count s_found_sheets_olds s_found_sheets_youngs)) (WR := [(a0, .inr (11, [.ref q_text, .ref q_ocean, .ref q_trees, .ref q_found, .ref q_images, .ref q_search, .ref q_stories, .ref q_signs, .ref q_calendar, .ref q_draft, .int s_yearOfNow])), (q_found, .inr (2, [.ref q_found_books, .ref q_found_sheets, .ref q_found_known, .ref q_found_weights, .int s_found_dugMarshes, .int s_found_kept])), (q_found_sheets, .inr (6, [.ref q_found_sheets_marshes, .ref q_found_sheets_olds, .ref q_found_sheets_youngs, .int s_found_sheets_count])), (q_found_sheets_olds, .inl (cA 1, 12, .inl s_found_sheets_olds)), (q_found_sheets_youngs, .inl (cA 1, 12, .inl s_found_sheets_youngs))]) rfl rfl rfl rfl (by decide) (by decide) rfl hl.1 rfl (st' := [.int r_5]) rfl (Nat.le_of_ble_eq_true rfl) ⟨Nat.zero_le _, Nat.zero_le _⟩ dX11_together_18 (fun H locs hP hD hS => ?_)
  refine lv_if_ne (tgt := 26) hx hb dX11_together_21 (by decide) (fun c_7 => ?_) (fun c_7 => ?_)
  · have hf := pbr_f c_7 hf
    refine lv_aload_n hx hb dX11_together_26 rfl (lv_at hl 1 rfl) ?_
    refine va_get (D := D) (ci := 11) (v := .ref q_found) (C := RX11) (T := TX11) (N := 11) hx hb hts hn_X11_together_X11 hown hK hP 0 rfl rfl 3 (by decide) (hts _ hw_X11_together_f33) (fun _ h9 => h9) rfl dX11_together_27 ?_
    refine va_getN (D := D) (ci := 2) (v := .ref q_found_sheets) (C := RX2) (T := TX2) (N := 6) hx hb hts hn_X11_together_X2 hown hK hP 1 rfl rfl 1 (by decide) (va_Nw.use rfl (hN _ nw_X11_250)) (fun _ h9 => h9) rfl dX11_together_30 ?_
    refine lv_iload_n hx hb dX11_together_33 rfl (lv_at hl 0 rfl) ?_
    obtain ⟨r_8, hc_9, hf⟩ := pcl_e hf
    refine m_callV2 (As := [.int x3_3]) (rest := []) ⟨hx, hb, hml, hown, hts⟩ hX (ct_X6_firstShared l D cA x3_3 q_found_sheets q_found_sheets_olds q_found_sheets_marshes q_found_sheets_youngs s_found_sheets_count s_found_sheets_olds r_8 hc_9) (cwV 1 hts gX11_together_X6_firstShared rfl rfl rfl (by decide +kernel) ⟨Nat.le_of_ble_eq_true rfl, Nat.le_of_ble_eq_true rfl⟩) hP hD hS hA [2, 3] [0, 1, 4] 5 (by decide) rfl rfl (WS' := (w_X11_together a0 q_found q_found_sheets q_found_sheets_olds q_found_sheets_youngs q_text q_ocean q_trees q_images q_search q_stories q_signs q_calendar q_draft q_found_books q_found_known q_found_weights q_found_sheets_marshes cA s_yearOfNow s_found_dugMarshes s_found_kept s_found_sheets_count s_found_sheets_olds s_found_sheets_youngs)) (WR := [(a0, .inr (11, [.ref q_text, .ref q_ocean, .ref q_trees, .ref q_found, .ref q_images, .ref q_search, .ref q_stories, .ref q_signs, .ref q_calendar, .ref q_draft, .int s_yearOfNow])), (q_found, .inr (2, [.ref q_found_books, .ref q_found_sheets, .ref q_found_known, .ref q_found_weights, .int s_found_dugMarshes, .int s_found_kept])), (q_found_sheets_youngs, .inl (cA 1, 12, .inl s_found_sheets_youngs))]) rfl rfl rfl rfl (by decide) (by decide) 2 6 rfl rfl rfl hl.1 rfl (st' := [.int r_8]) rfl (Nat.le_of_ble_eq_true rfl) ⟨Nat.zero_le _, Nat.zero_le _⟩ dX11_together_34 (fun H locs hP hD hS => ?_)
    refine lv_istore (lv' := [(4, .int r_8), (3, .int x3_3), (0, .ref a0), (1, .int x1), (2, .int x2)]) hx hb dX11_together_37 hl (by decide) rfl (fun ls hl => ?_)
    refine lv_aload_n hx hb dX11_together_39 rfl (lv_at hl 2 rfl) ?_
    refine va_get (D := D) (ci := 11) (v := .ref q_found) (C := RX11) (T := TX11) (N := 11) hx hb hts hn_X11_together_X11 hown hK hP 0 rfl rfl 3 (by decide) (hts _ hw_X11_together_f33) (fun _ h9 => h9) rfl dX11_together_40 ?_
    refine va_getN (D := D) (ci := 2) (v := .ref q_found_sheets) (C := RX2) (T := TX2) (N := 6) hx hb hts hn_X11_together_X2 hown hK hP 1 rfl rfl 1 (by decide) (va_Nw.use rfl (hN _ nw_X11_250)) (fun _ h9 => h9) rfl dX11_together_43 ?_
    refine lv_iload_n hx hb dX11_together_46 rfl (lv_at hl 1 rfl) ?_
    obtain ⟨r_10, hc_11, hf⟩ := pcl_e hf
    refine m_callV2 (As := [.int x3_3]) (rest := []) ⟨hx, hb, hml, hown, hts⟩ hX (ct_X6_lastShared l D cA x3_3 q_found_sheets q_found_sheets_youngs q_found_sheets_marshes q_found_sheets_olds s_found_sheets_count s_found_sheets_youngs r_10 hc_11) (cwV 1 hts gX11_together_X6_lastShared rfl rfl rfl (by decide +kernel) ⟨Nat.le_of_ble_eq_true rfl, Nat.le_of_ble_eq_true rfl⟩) hP hD hS hA [2, 4] [0, 1, 3] 5 (by decide) rfl rfl (WS' := (w_X11_together a0 q_found q_found_sheets q_found_sheets_olds q_found_sheets_youngs q_text q_ocean q_trees q_images q_search q_stories q_signs q_calendar q_draft q_found_books q_found_known q_found_weights q_found_sheets_marshes cA s_yearOfNow s_found_dugMarshes s_found_kept s_found_sheets_count s_found_sheets_olds s_found_sheets_youngs)) (WR := [(a0, .inr (11, [.ref q_text, .ref q_ocean, .ref q_trees, .ref q_found, .ref q_images, .ref q_search, .ref q_stories, .ref q_signs, .ref q_calendar, .ref q_draft, .int s_yearOfNow])), (q_found, .inr (2, [.ref q_found_books, .ref q_found_sheets, .ref q_found_known, .ref q_found_weights, .int s_found_dugMarshes, .int s_found_kept])), (q_found_sheets_olds, .inl (cA 1, 12, .inl s_found_sheets_olds))]) rfl rfl rfl rfl (by decide) (by decide) 2 6 rfl rfl rfl hl.1 rfl (st' := [.int r_10]) rfl (Nat.le_of_ble_eq_true rfl) ⟨Nat.zero_le _, Nat.zero_le _⟩ dX11_together_47 (fun H locs hP hD hS => ?_)
    refine lv_istore (lv' := [(5, .int r_10), (4, .int r_8), (3, .int x3_3), (0, .ref a0), (1, .int x1), (2, .int x2)]) hx hb dX11_together_50 hl (by decide) rfl (fun ls hl => ?_)
    refine lv_iload hx hb dX11_together_52 (lv_at hl 1 rfl) ?_
    refine lv_iload hx hb dX11_together_54 (lv_at hl 0 rfl) ?_
    refine lv_icmp_le (tgt := 62) hx hb dX11_together_56 (by decide) (fun c_12 => ?_) (fun c_12 => ?_)
    · have hf := pbr_t c_12 hf
      refine lv_iload_n hx hb dX11_together_62 rfl (lv_at hl 5 rfl) ?_
      refine lv_if_ne (tgt := 71) hx hb dX11_together_63 (by decide) (fun c_13 => ?_) (fun c_13 => ?_)
      · have hf := pbr_f c_13 hf
        refine lv_iload hx hb dX11_together_71 (lv_at hl 0 rfl) ?_
        obtain rfl := pe1 hf
        exact m_iret hx hb hr hlocks hP hS dX11_together_73
      have hf := pbr_t c_13 hf
      refine lv_iload hx hb dX11_together_66 (lv_at hl 1 rfl) ?_
      refine lv_goto (tgt := 73) hx hb dX11_together_68 (by decide) ?_
      obtain rfl := pe1 hf
      exact m_iret hx hb hr hlocks hP hS dX11_together_73
    have hf := pbr_f c_12 hf
    refine lv_bipush (v := (-9 : Int32)) hx hb dX11_together_59 (by decide) ?_
    obtain rfl := pe1 hf
    exact m_iret hx hb hr hlocks hP hS dX11_together_61
  have hf := pbr_t c_7 hf
  refine lv_iconst (v := (-1 : Int32)) hx hb dX11_together_24 (by decide) ?_
  obtain rfl := pe1 hf
  exact m_iret hx hb hr hlocks hP hS dX11_together_25

/-! ===== OrphanWave.slips()I ===== -/
abbrev rm_X11_slips : Room := { frames := 3, cells := 0, slots := 0, locals := 68 }
abbrev w_X11_slips (a0 : Nat) (q_found : Nat) (q_found_sheets : Nat) (q_found_sheets_youngs : Nat) (q_found_sheets_olds : Nat) (q_found_sheets_marshes : Nat) (q_text : Nat) (q_ocean : Nat) (q_trees : Nat) (q_images : Nat) (q_search : Nat) (q_stories : Nat) (q_signs : Nat) (q_calendar : Nat) (q_draft : Nat) (q_found_books : Nat) (q_found_known : Nat) (q_found_weights : Nat) (cA : Nat → ClassId) (s_yearOfNow : Int32) (s_found_dugMarshes : Int32) (s_found_kept : Int32) (s_found_sheets_count : Int32) (s_found_sheets_youngs : Nat → Int32) (s_found_sheets_olds : Nat → Int32) (s_found_sheets_marshes : Nat → Int32) : va_W := [(a0, .inr (11, [.ref q_text, .ref q_ocean, .ref q_trees, .ref q_found, .ref q_images, .ref q_search, .ref q_stories, .ref q_signs, .ref q_calendar, .ref q_draft, .int s_yearOfNow])), (q_found, .inr (2, [.ref q_found_books, .ref q_found_sheets, .ref q_found_known, .ref q_found_weights, .int s_found_dugMarshes, .int s_found_kept])), (q_found_sheets, .inr (6, [.ref q_found_sheets_marshes, .ref q_found_sheets_olds, .ref q_found_sheets_youngs, .int s_found_sheets_count])), (q_found_sheets_youngs, .inl (cA 1, 12, .inl s_found_sheets_youngs)), (q_found_sheets_olds, .inl (cA 1, 12, .inl s_found_sheets_olds)), (q_found_sheets_marshes, .inl (cA 1, 12, .inl s_found_sheets_marshes))]
theorem hn_X11_slips_X11 : ∀ w ∈ u_ws RX11 TX11 11, w ∈ wsX11_slips := by decide +kernel
theorem hn_X11_slips_X2 : ∀ w ∈ u_ws RX2 TX2 6, w ∈ wsX11_slips := by decide +kernel
theorem hw_X11_slips_f33 : Cond.fieldLink RX11 33 "OrphanWave" "found" "LOrphanWave$Findings;" ∈ wsX11_slips := by decide +kernel
theorem hw_X11_slips_m274 : Cond.methodLink RX11 274 Lib.Math.max.name ∈ wsX11_slips := by decide +kernel
theorem hw_X11_slips_smax : Cond.static Lib.Math.max.name ∈ wsX11_slips := by decide +kernel
theorem hw_X11_slips_imath : Cond.initialized "java/lang/Math" ∈ wsX11_slips := by decide +kernel
theorem hw_X11_slips_kmax : Cond.code Lib.Math.max.name Lib.Math.max.code 2 (some .int) ∈ wsX11_slips := by decide +kernel

def f_X11_slips (s_found_sheets_count : Int32) (s_found_sheets_youngs : Nat → Int32) (s_found_sheets_olds : Nat → Int32) (s_found_sheets_marshes : Nat → Int32) : Option ((Int32)) :=
  pcl (f_X6_fewestYears s_found_sheets_count s_found_sheets_youngs s_found_sheets_olds) (fun r_1 => (
  pcl (f_X6_mostOfOneMarsh s_found_sheets_count s_found_sheets_marshes) (fun r_3 => (
  some ((if r_1 < r_3 then r_3 else r_1))))))

set_option maxRecDepth 100000 in
set_option maxHeartbeats 4000000 in
theorem ct_X11_slips (l : Launch) (D : va_G) (cA : Nat → ClassId) (a0 : Nat) (q_found : Nat) (q_found_sheets : Nat) (q_found_sheets_youngs : Nat) (q_found_sheets_olds : Nat) (q_found_sheets_marshes : Nat) (q_text : Nat) (q_ocean : Nat) (q_trees : Nat) (q_images : Nat) (q_search : Nat) (q_stories : Nat) (q_signs : Nat) (q_calendar : Nat) (q_draft : Nat) (q_found_books : Nat) (q_found_known : Nat) (q_found_weights : Nat) (s_yearOfNow : Int32) (s_found_dugMarshes : Int32) (s_found_kept : Int32) (s_found_sheets_count : Int32) (s_found_sheets_youngs : Nat → Int32) (s_found_sheets_olds : Nat → Int32) (s_found_sheets_marshes : Nat → Int32) (o_r : Int32) (hf : f_X11_slips s_found_sheets_count s_found_sheets_youngs s_found_sheets_olds s_found_sheets_marshes = some o_r) : CT l yX11_slips wsX11_slips rm_X11_slips D cA [.ref a0] (w_X11_slips a0 q_found q_found_sheets q_found_sheets_youngs q_found_sheets_olds q_found_sheets_marshes q_text q_ocean q_trees q_images q_search q_stories q_signs q_calendar q_draft q_found_books q_found_known q_found_weights cA s_yearOfNow s_found_dugMarshes s_found_kept s_found_sheets_count s_found_sheets_youngs s_found_sheets_olds s_found_sheets_marshes) (w_X11_slips a0 q_found q_found_sheets q_found_sheets_youngs q_found_sheets_olds q_found_sheets_marshes q_text q_ocean q_trees q_images q_search q_stories q_signs q_calendar q_draft q_found_books q_found_known q_found_weights cA s_yearOfNow s_found_dugMarshes s_found_kept s_found_sheets_count s_found_sheets_youngs s_found_sheets_olds s_found_sheets_marshes) (some (.int o_r)) := by
  refine CT.ofW (cc := cX11_slips) (maxL := 1) (ret := (some .int)) (by decide +kernel) rfl (Nat.le_of_ble_eq_true rfl) ?_
  intro p e s m below meth c A C0 hA hP hD ls hl
  have C0 : MX p s m [.ref a0].toArray meth c cX11_slips 1 wsX11_slips RX11 (some .int) D cA := C0
  have hl : lv_has ls 1 [(0, .ref a0)] := hl
  obtain ⟨hx, hb, hml, hown, hts, hr, hlocks, hX⟩ := id C0
  have hK := hX.1
  have hN := hX.2
  have hS : va_S A s.heap s.heap [] := va_S.rf
  unfold f_X11_slips at hf
  refine lv_aload_n hx hb dX11_slips_0 rfl (lv_at hl 0 rfl) ?_
  refine va_get (D := D) (ci := 11) (v := .ref q_found) (C := RX11) (T := TX11) (N := 11) hx hb hts hn_X11_slips_X11 hown hK hP 0 rfl rfl 3 (by decide) (hts _ hw_X11_slips_f33) (fun _ h9 => h9) rfl dX11_slips_1 ?_
  refine va_getN (D := D) (ci := 2) (v := .ref q_found_sheets) (C := RX2) (T := TX2) (N := 6) hx hb hts hn_X11_slips_X2 hown hK hP 1 rfl rfl 1 (by decide) (va_Nw.use rfl (hN _ nw_X11_250)) (fun _ h9 => h9) rfl dX11_slips_4 ?_
  obtain ⟨r_1, hc_2, hf⟩ := pcl_e hf
  refine m_callV2 (As := []) (rest := []) ⟨hx, hb, hml, hown, hts⟩ hX (ct_X6_fewestYears l D cA q_found_sheets q_found_sheets_youngs q_found_sheets_olds q_found_sheets_marshes s_found_sheets_count s_found_sheets_youngs s_found_sheets_olds r_1 hc_2) (cwV 0 hts gX11_slips_X6_fewestYears rfl rfl rfl (by decide +kernel) ⟨Nat.le_of_ble_eq_true rfl, Nat.le_of_ble_eq_true rfl⟩) hP hD hS hA [2, 3, 4] [0, 1, 5] 6 (by decide) rfl rfl (WS' := (w_X11_slips a0 q_found q_found_sheets q_found_sheets_youngs q_found_sheets_olds q_found_sheets_marshes q_text q_ocean q_trees q_images q_search q_stories q_signs q_calendar q_draft q_found_books q_found_known q_found_weights cA s_yearOfNow s_found_dugMarshes s_found_kept s_found_sheets_count s_found_sheets_youngs s_found_sheets_olds s_found_sheets_marshes)) (WR := [(a0, .inr (11, [.ref q_text, .ref q_ocean, .ref q_trees, .ref q_found, .ref q_images, .ref q_search, .ref q_stories, .ref q_signs, .ref q_calendar, .ref q_draft, .int s_yearOfNow])), (q_found, .inr (2, [.ref q_found_books, .ref q_found_sheets, .ref q_found_known, .ref q_found_weights, .int s_found_dugMarshes, .int s_found_kept])), (q_found_sheets_marshes, .inl (cA 1, 12, .inl s_found_sheets_marshes))]) rfl rfl rfl rfl (by decide) (by decide) 2 6 rfl rfl rfl hl.1 rfl (st' := [.int r_1]) rfl (Nat.le_of_ble_eq_true rfl) ⟨Nat.zero_le _, Nat.zero_le _⟩ dX11_slips_7 (fun H locs hP hD hS => ?_)
  refine lv_aload_n hx hb dX11_slips_10 rfl (lv_at hl 0 rfl) ?_
  refine va_get (D := D) (ci := 11) (v := .ref q_found) (C := RX11) (T := TX11) (N := 11) hx hb hts hn_X11_slips_X11 hown hK hP 0 rfl rfl 3 (by decide) (hts _ hw_X11_slips_f33) (fun _ h9 => h9) rfl dX11_slips_11 ?_
  refine va_getN (D := D) (ci := 2) (v := .ref q_found_sheets) (C := RX2) (T := TX2) (N := 6) hx hb hts hn_X11_slips_X2 hown hK hP 1 rfl rfl 1 (by decide) (va_Nw.use rfl (hN _ nw_X11_250)) (fun _ h9 => h9) rfl dX11_slips_14 ?_
  obtain ⟨r_3, hc_4, hf⟩ := pcl_e hf
  refine m_callV2 (As := []) (rest := [.int r_1]) ⟨hx, hb, hml, hown, hts⟩ hX (ct_X6_mostOfOneMarsh l D cA q_found_sheets q_found_sheets_marshes q_found_sheets_olds q_found_sheets_youngs s_found_sheets_count s_found_sheets_marshes r_3 hc_4) (cwV 0 hts gX11_slips_X6_mostOfOneMarsh rfl rfl rfl (by decide +kernel) ⟨Nat.le_of_ble_eq_true rfl, Nat.le_of_ble_eq_true rfl⟩) hP hD hS hA [2, 5] [0, 1, 3, 4] 6 (by decide) rfl rfl (WS' := (w_X11_slips a0 q_found q_found_sheets q_found_sheets_youngs q_found_sheets_olds q_found_sheets_marshes q_text q_ocean q_trees q_images q_search q_stories q_signs q_calendar q_draft q_found_books q_found_known q_found_weights cA s_yearOfNow s_found_dugMarshes s_found_kept s_found_sheets_count s_found_sheets_youngs s_found_sheets_olds s_found_sheets_marshes)) (WR := [(a0, .inr (11, [.ref q_text, .ref q_ocean, .ref q_trees, .ref q_found, .ref q_images, .ref q_search, .ref q_stories, .ref q_signs, .ref q_calendar, .ref q_draft, .int s_yearOfNow])), (q_found, .inr (2, [.ref q_found_books, .ref q_found_sheets, .ref q_found_known, .ref q_found_weights, .int s_found_dugMarshes, .int s_found_kept])), (q_found_sheets_youngs, .inl (cA 1, 12, .inl s_found_sheets_youngs)), (q_found_sheets_olds, .inl (cA 1, 12, .inl s_found_sheets_olds))]) rfl rfl rfl rfl (by decide) (by decide) 2 6 rfl rfl rfl hl.1 rfl (st' := [.int r_3, .int r_1]) rfl (Nat.le_of_ble_eq_true rfl) ⟨Nat.zero_le _, Nat.zero_le _⟩ dX11_slips_17 (fun H locs hP hD hS => ?_)
  refine va_mmax hx hb (hml.trans hl.1.symm) hown (hts _ hw_X11_slips_m274) (hts _ hw_X11_slips_smax) (hts _ hw_X11_slips_imath) (hts _ hw_X11_slips_kmax) (Nat.le_of_ble_eq_true rfl) (Nat.le_of_ble_eq_true rfl) (Nat.zero_le _) (Nat.zero_le _) dX11_slips_20 ?_
  obtain rfl := pe1 hf
  exact m_iret hx hb hr hlocks hP hS dX11_slips_23

/-! ===== OrphanWave.joined(I)I ===== -/
abbrev rm_X11_joined : Room := { frames := 3, cells := 0, slots := 0, locals := 66 }
abbrev w_X11_joined (a0 : Nat) (q_found : Nat) (q_found_sheets : Nat) (q_found_sheets_olds : Nat) (q_found_sheets_youngs : Nat) (q_found_sheets_marshes : Nat) (q_text : Nat) (q_ocean : Nat) (q_trees : Nat) (q_images : Nat) (q_search : Nat) (q_stories : Nat) (q_signs : Nat) (q_calendar : Nat) (q_draft : Nat) (q_found_books : Nat) (q_found_known : Nat) (q_found_weights : Nat) (cA : Nat → ClassId) (s_yearOfNow : Int32) (s_found_dugMarshes : Int32) (s_found_kept : Int32) (s_found_sheets_count : Int32) (s_found_sheets_olds : Nat → Int32) (s_found_sheets_youngs : Nat → Int32) (s_found_sheets_marshes : Nat → Int32) : va_W := [(a0, .inr (11, [.ref q_text, .ref q_ocean, .ref q_trees, .ref q_found, .ref q_images, .ref q_search, .ref q_stories, .ref q_signs, .ref q_calendar, .ref q_draft, .int s_yearOfNow])), (q_found, .inr (2, [.ref q_found_books, .ref q_found_sheets, .ref q_found_known, .ref q_found_weights, .int s_found_dugMarshes, .int s_found_kept])), (q_found_sheets, .inr (6, [.ref q_found_sheets_marshes, .ref q_found_sheets_olds, .ref q_found_sheets_youngs, .int s_found_sheets_count])), (q_found_sheets_olds, .inl (cA 1, 12, .inl s_found_sheets_olds)), (q_found_sheets_youngs, .inl (cA 1, 12, .inl s_found_sheets_youngs)), (q_found_sheets_marshes, .inl (cA 1, 12, .inl s_found_sheets_marshes))]
theorem hn_X11_joined_X11 : ∀ w ∈ u_ws RX11 TX11 11, w ∈ wsX11_joined := by decide +kernel
theorem hn_X11_joined_X2 : ∀ w ∈ u_ws RX2 TX2 6, w ∈ wsX11_joined := by decide +kernel
theorem hw_X11_joined_f33 : Cond.fieldLink RX11 33 "OrphanWave" "found" "LOrphanWave$Findings;" ∈ wsX11_joined := by decide +kernel

def f_X11_joined (x1 : Int32) (s_found_sheets_count : Int32) (s_found_sheets_olds : Nat → Int32) (s_found_sheets_youngs : Nat → Int32) (s_found_sheets_marshes : Nat → Int32) : Option ((Int32)) :=
  pcl (f_X11_isYear x1) (fun r_1 => (
  pbr (r_1 = 0)
    (some ((-1 : Int32)))
    (pcl (f_X6_marshesAt x1 s_found_sheets_count s_found_sheets_olds s_found_sheets_youngs s_found_sheets_marshes) (fun r_4 => (
    some (r_4))))))

set_option maxRecDepth 100000 in
set_option maxHeartbeats 4000000 in
theorem ct_X11_joined (l : Launch) (D : va_G) (cA : Nat → ClassId) (x1 : Int32) (a0 : Nat) (q_found : Nat) (q_found_sheets : Nat) (q_found_sheets_olds : Nat) (q_found_sheets_youngs : Nat) (q_found_sheets_marshes : Nat) (q_text : Nat) (q_ocean : Nat) (q_trees : Nat) (q_images : Nat) (q_search : Nat) (q_stories : Nat) (q_signs : Nat) (q_calendar : Nat) (q_draft : Nat) (q_found_books : Nat) (q_found_known : Nat) (q_found_weights : Nat) (s_yearOfNow : Int32) (s_found_dugMarshes : Int32) (s_found_kept : Int32) (s_found_sheets_count : Int32) (s_found_sheets_olds : Nat → Int32) (s_found_sheets_youngs : Nat → Int32) (s_found_sheets_marshes : Nat → Int32) (o_r : Int32) (hf : f_X11_joined x1 s_found_sheets_count s_found_sheets_olds s_found_sheets_youngs s_found_sheets_marshes = some o_r) : CT l yX11_joined wsX11_joined rm_X11_joined D cA [.ref a0, .int x1] (w_X11_joined a0 q_found q_found_sheets q_found_sheets_olds q_found_sheets_youngs q_found_sheets_marshes q_text q_ocean q_trees q_images q_search q_stories q_signs q_calendar q_draft q_found_books q_found_known q_found_weights cA s_yearOfNow s_found_dugMarshes s_found_kept s_found_sheets_count s_found_sheets_olds s_found_sheets_youngs s_found_sheets_marshes) (w_X11_joined a0 q_found q_found_sheets q_found_sheets_olds q_found_sheets_youngs q_found_sheets_marshes q_text q_ocean q_trees q_images q_search q_stories q_signs q_calendar q_draft q_found_books q_found_known q_found_weights cA s_yearOfNow s_found_dugMarshes s_found_kept s_found_sheets_count s_found_sheets_olds s_found_sheets_youngs s_found_sheets_marshes) (some (.int o_r)) := by
  refine CT.ofW (cc := cX11_joined) (maxL := 2) (ret := (some .int)) (by decide +kernel) rfl (Nat.le_of_ble_eq_true rfl) ?_
  intro p e s m below meth c A C0 hA hP hD ls hl
  have C0 : MX p s m [.ref a0, .int x1].toArray meth c cX11_joined 2 wsX11_joined RX11 (some .int) D cA := C0
  have hl : lv_has ls 2 [(0, .ref a0), (1, .int x1)] := hl
  obtain ⟨hx, hb, hml, hown, hts, hr, hlocks, hX⟩ := id C0
  have hK := hX.1
  have hN := hX.2
  have hS : va_S A s.heap s.heap [] := va_S.rf
  unfold f_X11_joined at hf
  refine lv_iload_n hx hb dX11_joined_0 rfl (lv_at hl 1 rfl) ?_
  obtain ⟨r_1, hc_2, hf⟩ := pcl_e hf
  refine m_callS2 (As := [.int x1]) (rest := []) ⟨hx, hb, hml, hown, hts⟩ hX (ct_X11_isYear l D cA x1 r_1 hc_2) (va_cwS 1 hts gX11_joined_X11_isYear rfl rfl rfl (by decide +kernel) ⟨Nat.le_of_ble_eq_true rfl, Nat.le_of_ble_eq_true rfl⟩) hP hD hS hA [] [0, 1, 2, 3, 4, 5] 6 (by decide) rfl rfl (WS' := (w_X11_joined a0 q_found q_found_sheets q_found_sheets_olds q_found_sheets_youngs q_found_sheets_marshes q_text q_ocean q_trees q_images q_search q_stories q_signs q_calendar q_draft q_found_books q_found_known q_found_weights cA s_yearOfNow s_found_dugMarshes s_found_kept s_found_sheets_count s_found_sheets_olds s_found_sheets_youngs s_found_sheets_marshes)) (WR := [(a0, .inr (11, [.ref q_text, .ref q_ocean, .ref q_trees, .ref q_found, .ref q_images, .ref q_search, .ref q_stories, .ref q_signs, .ref q_calendar, .ref q_draft, .int s_yearOfNow])), (q_found, .inr (2, [.ref q_found_books, .ref q_found_sheets, .ref q_found_known, .ref q_found_weights, .int s_found_dugMarshes, .int s_found_kept])), (q_found_sheets, .inr (6, [.ref q_found_sheets_marshes, .ref q_found_sheets_olds, .ref q_found_sheets_youngs, .int s_found_sheets_count])), (q_found_sheets_olds, .inl (cA 1, 12, .inl s_found_sheets_olds)), (q_found_sheets_youngs, .inl (cA 1, 12, .inl s_found_sheets_youngs)), (q_found_sheets_marshes, .inl (cA 1, 12, .inl s_found_sheets_marshes))]) rfl rfl rfl rfl (by decide) (by decide) rfl hl.1 rfl (st' := [.int r_1]) rfl (Nat.le_of_ble_eq_true rfl) ⟨Nat.zero_le _, Nat.zero_le _⟩ dX11_joined_1 (fun H locs hP hD hS => ?_)
  refine lv_if_eq (tgt := 21) hx hb dX11_joined_4 (by decide) (fun c_3 => ?_) (fun c_3 => ?_)
  · have hf := pbr_t c_3 hf
    refine lv_iconst (v := (-1 : Int32)) hx hb dX11_joined_21 (by decide) ?_
    obtain rfl := pe1 hf
    exact m_iret hx hb hr hlocks hP hS dX11_joined_22
  have hf := pbr_f c_3 hf
  refine lv_aload_n hx hb dX11_joined_7 rfl (lv_at hl 0 rfl) ?_
  refine va_get (D := D) (ci := 11) (v := .ref q_found) (C := RX11) (T := TX11) (N := 11) hx hb hts hn_X11_joined_X11 hown hK hP 0 rfl rfl 3 (by decide) (hts _ hw_X11_joined_f33) (fun _ h9 => h9) rfl dX11_joined_8 ?_
  refine va_getN (D := D) (ci := 2) (v := .ref q_found_sheets) (C := RX2) (T := TX2) (N := 6) hx hb hts hn_X11_joined_X2 hown hK hP 1 rfl rfl 1 (by decide) (va_Nw.use rfl (hN _ nw_X11_250)) (fun _ h9 => h9) rfl dX11_joined_11 ?_
  refine lv_iload_n hx hb dX11_joined_14 rfl (lv_at hl 1 rfl) ?_
  obtain ⟨r_4, hc_5, hf⟩ := pcl_e hf
  refine m_callV2 (As := [.int x1]) (rest := []) ⟨hx, hb, hml, hown, hts⟩ hX (ct_X6_marshesAt l D cA x1 q_found_sheets q_found_sheets_olds q_found_sheets_youngs q_found_sheets_marshes s_found_sheets_count s_found_sheets_olds s_found_sheets_youngs s_found_sheets_marshes r_4 hc_5) (cwV 1 hts gX11_joined_X6_marshesAt rfl rfl rfl (by decide +kernel) ⟨Nat.le_of_ble_eq_true rfl, Nat.le_of_ble_eq_true rfl⟩) hP hD hS hA [2, 3, 4, 5] [0, 1] 6 (by decide) rfl rfl (WS' := (w_X11_joined a0 q_found q_found_sheets q_found_sheets_olds q_found_sheets_youngs q_found_sheets_marshes q_text q_ocean q_trees q_images q_search q_stories q_signs q_calendar q_draft q_found_books q_found_known q_found_weights cA s_yearOfNow s_found_dugMarshes s_found_kept s_found_sheets_count s_found_sheets_olds s_found_sheets_youngs s_found_sheets_marshes)) (WR := [(a0, .inr (11, [.ref q_text, .ref q_ocean, .ref q_trees, .ref q_found, .ref q_images, .ref q_search, .ref q_stories, .ref q_signs, .ref q_calendar, .ref q_draft, .int s_yearOfNow])), (q_found, .inr (2, [.ref q_found_books, .ref q_found_sheets, .ref q_found_known, .ref q_found_weights, .int s_found_dugMarshes, .int s_found_kept]))]) rfl rfl rfl rfl (by decide) (by decide) 2 6 rfl rfl rfl hl.1 rfl (st' := [.int r_4]) rfl (Nat.le_of_ble_eq_true rfl) ⟨Nat.zero_le _, Nat.zero_le _⟩ dX11_joined_15 (fun H locs hP hD hS => ?_)
  refine lv_goto (tgt := 22) hx hb dX11_joined_18 (by decide) ?_
  obtain rfl := pe1 hf
  exact m_iret hx hb hr hlocks hP hS dX11_joined_22
