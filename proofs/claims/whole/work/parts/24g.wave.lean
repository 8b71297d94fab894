/-! ===== OrphanWave.whole(I)I ===== -/
abbrev rm_X11_whole : Room := { frames := 4, cells := 0, slots := 0, locals := 90 }
abbrev w_X11_whole (a0 : Nat) (q_found : Nat) (q_found_sheets : Nat) (q_found_sheets_olds : Nat) (q_found_sheets_youngs : Nat) (q_found_sheets_marshes : Nat) (q_text : Nat) (q_ocean : Nat) (q_trees : Nat) (q_images : Nat) (q_search : Nat) (q_stories : Nat) (q_signs : Nat) (q_calendar : Nat) (q_draft : Nat) (q_found_books : Nat) (q_found_known : Nat) (q_found_weights : Nat) (cA : Nat → ClassId) (s_yearOfNow : Int32) (s_found_dugMarshes : Int32) (s_found_kept : Int32) (s_found_sheets_count : Int32) (s_found_sheets_olds : Nat → Int32) (s_found_sheets_youngs : Nat → Int32) (s_found_sheets_marshes : Nat → Int32) : va_W := [(a0, .inr (11, [.ref q_text, .ref q_ocean, .ref q_trees, .ref q_found, .ref q_images, .ref q_search, .ref q_stories, .ref q_signs, .ref q_calendar, .ref q_draft, .int s_yearOfNow])), (q_found, .inr (2, [.ref q_found_books, .ref q_found_sheets, .ref q_found_known, .ref q_found_weights, .int s_found_dugMarshes, .int s_found_kept])), (q_found_sheets, .inr (6, [.ref q_found_sheets_marshes, .ref q_found_sheets_olds, .ref q_found_sheets_youngs, .int s_found_sheets_count])), (q_found_sheets_olds, .inl (cA 1, 12, .inl s_found_sheets_olds)), (q_found_sheets_youngs, .inl (cA 1, 12, .inl s_found_sheets_youngs)), (q_found_sheets_marshes, .inl (cA 1, 12, .inl s_found_sheets_marshes))]
theorem hn_X11_whole_X11 : ∀ w ∈ u_ws RX11 TX11 11, w ∈ wsX11_whole := by decide +kernel
theorem hn_X11_whole_X2 : ∀ w ∈ u_ws RX2 TX2 6, w ∈ wsX11_whole := by decide +kernel
theorem hw_X11_whole_f33 : Cond.fieldLink RX11 33 "OrphanWave" "found" "LOrphanWave$Findings;" ∈ wsX11_whole := by decide +kernel

def f_X11_whole (x1 : Int32) (s_found_sheets_count : Int32) (s_found_sheets_olds : Nat → Int32) (s_found_sheets_youngs : Nat → Int32) (s_found_sheets_marshes : Nat → Int32) : Option ((Int32)) :=
  pcl (f_X11_isBit x1) (fun r_1 => (
  pbr (r_1 = 0)
    (some ((-1 : Int32)))
    (pcl (f_X6_widestYear s_found_sheets_count s_found_sheets_olds s_found_sheets_youngs s_found_sheets_marshes) (fun r_4 => (
    pbr (r_4 = (-9 : Int32))
      (some (r_4))
      (pbr (x1 = 0)
        (some (r_4))
        (pcl (f_X6_marshesAt r_4 s_found_sheets_count s_found_sheets_olds s_found_sheets_youngs s_found_sheets_marshes) (fun r_8 => (
        pcl (f_J6_bitCount_0f7a4 r_8) (fun r_10 => (
        some (r_10))))))))))))

set_option maxRecDepth 100000 in
set_option maxHeartbeats 4000000 in
theorem ct_X11_whole (l : Launch) (D : va_G) (cA : Nat → ClassId) (x1 : Int32) (a0 : Nat) (q_found : Nat) (q_found_sheets : Nat) (q_found_sheets_olds : Nat) (q_found_sheets_youngs : Nat) (q_found_sheets_marshes : Nat) (q_text : Nat) (q_ocean : Nat) (q_trees : Nat) (q_images : Nat) (q_search : Nat) (q_stories : Nat) (q_signs : Nat) (q_calendar : Nat) (q_draft : Nat) (q_found_books : Nat) (q_found_known : Nat) (q_found_weights : Nat) (s_yearOfNow : Int32) (s_found_dugMarshes : Int32) (s_found_kept : Int32) (s_found_sheets_count : Int32) (s_found_sheets_olds : Nat → Int32) (s_found_sheets_youngs : Nat → Int32) (s_found_sheets_marshes : Nat → Int32) (o_r : Int32) (hf : f_X11_whole x1 s_found_sheets_count s_found_sheets_olds s_found_sheets_youngs s_found_sheets_marshes = some o_r) : CT l yX11_whole wsX11_whole rm_X11_whole D cA [.ref a0, .int x1] (w_X11_whole a0 q_found q_found_sheets q_found_sheets_olds q_found_sheets_youngs q_found_sheets_marshes q_text q_ocean q_trees q_images q_search q_stories q_signs q_calendar q_draft q_found_books q_found_known q_found_weights cA s_yearOfNow s_found_dugMarshes s_found_kept s_found_sheets_count s_found_sheets_olds s_found_sheets_youngs s_found_sheets_marshes) (w_X11_whole a0 q_found q_found_sheets q_found_sheets_olds q_found_sheets_youngs q_found_sheets_marshes q_text q_ocean q_trees q_images q_search q_stories q_signs q_calendar q_draft q_found_books q_found_known q_found_weights cA s_yearOfNow s_found_dugMarshes s_found_kept s_found_sheets_count s_found_sheets_olds s_found_sheets_youngs s_found_sheets_marshes) (some (.int o_r)) := by
  refine CT.ofW (cc := cX11_whole) (maxL := 3) (ret := (some .int)) (by decide +kernel) rfl (Nat.le_of_ble_eq_true rfl) ?_
  intro p e s m below meth c A C0 hA hP hD ls hl
  have C0 : MX p s m [.ref a0, .int x1].toArray meth c cX11_whole 3 wsX11_whole RX11 (some .int) D cA := C0
  have hl : lv_has ls 3 [(0, .ref a0), (1, .int x1)] := hl
  obtain ⟨hx, hb, hml, hown, hts, hr, hlocks, hX⟩ := id C0
  have hK := hX.1
  have hN := hX.2
  have hS : va_S A s.heap s.heap [] := va_S.rf
  unfold f_X11_whole at hf
  refine lv_iload_n hx hb dX11_whole_0 rfl (lv_at hl 1 rfl) ?_
  obtain ⟨r_1, hc_2, hf⟩ := pcl_e hf
  refine m_callS2 (As := [.int x1]) (rest := []) ⟨hx, hb, hml, hown, hts⟩ hX (ct_X11_isBit l D cA x1 r_1 hc_2) (va_cwS 1 hts gX11_whole_X11_isBit rfl rfl rfl (by decide +kernel) ⟨Nat.le_of_ble_eq_true rfl, Nat.le_of_ble_eq_true rfl⟩) hP hD hS hA [] [0, 1, 2, 3, 4, 5] 6 (by decide) rfl rfl (WS' := (w_X11_whole a0 q_found q_found_sheets q_found_sheets_olds q_found_sheets_youngs q_found_sheets_marshes q_text q_ocean q_trees q_images q_search q_stories q_signs q_calendar q_draft q_found_books q_found_known q_found_weights cA s_yearOfNow s_found_dugMarshes s_found_kept s_found_sheets_count s_found_sheets_olds s_found_sheets_youngs s_found_sheets_marshes)) (WR := [(a0, .inr (11, [.ref q_text, .ref q_ocean, .ref q_trees, .ref q_found, .ref q_images, .ref q_search, .ref q_stories, .ref q_signs, .ref q_calendar, .ref q_draft, .int s_yearOfNow])), (q_found, .inr (2, [.ref q_found_books, .ref q_found_sheets, .ref q_found_known, .ref q_found_weights, .int s_found_dugMarshes, .int s_found_kept])), (q_found_sheets, .inr (6, [.ref q_found_sheets_marshes, .ref q_found_sheets_olds, .ref q_found_sheets_youngs, .int s_found_sheets_count])), (q_found_sheets_olds, .inl (cA 1, 12, .inl s_found_sheets_olds)), (q_found_sheets_youngs, .inl (cA 1, 12, .inl s_found_sheets_youngs)), (q_found_sheets_marshes, .inl (cA 1, 12, .inl s_found_sheets_marshes))]) rfl rfl rfl rfl (by decide) (by decide) rfl hl.1 rfl (st' := [.int r_1]) rfl (Nat.le_of_ble_eq_true rfl) ⟨Nat.zero_le _, Nat.zero_le _⟩ dX11_whole_1 (fun H locs hP hD hS => ?_)
  refine lv_if_ne (tgt := 9) hx hb dX11_whole_4 (by decide) (fun c_3 => ?_) (fun c_3 => ?_)
  · have hf := pbr_f c_3 hf
    refine lv_aload_n hx hb dX11_whole_9 rfl (lv_at hl 0 rfl) ?_
    refine va_get (D := D) (ci := 11) (v := .ref q_found) (C := RX11) (T := TX11) (N := 11) hx hb hts hn_X11_whole_X11 hown hK hP 0 rfl rfl 3 (by decide) (hts _ hw_X11_whole_f33) (fun _ h9 => h9) rfl dX11_whole_10 ?_
    refine va_getN (D := D) (ci := 2) (v := .ref q_found_sheets) (C := RX2) (T := TX2) (N := 6) hx hb hts hn_X11_whole_X2 hown hK hP 1 rfl rfl 1 (by decide) (va_Nw.use rfl (hN _ nw_X11_250)) (fun _ h9 => h9) rfl dX11_whole_13 ?_
    obtain ⟨r_4, hc_5, hf⟩ := pcl_e hf
    refine m_callV2 (As := []) (rest := []) ⟨hx, hb, hml, hown, hts⟩ hX (ct_X6_widestYear l D cA q_found_sheets q_found_sheets_olds q_found_sheets_youngs q_found_sheets_marshes s_found_sheets_count s_found_sheets_olds s_found_sheets_youngs s_found_sheets_marshes r_4 hc_5) (cwV 0 hts gX11_whole_X6_widestYear rfl rfl rfl (by decide +kernel) ⟨Nat.le_of_ble_eq_true rfl, Nat.le_of_ble_eq_true rfl⟩) hP hD hS hA [2, 3, 4, 5] [0, 1] 6 (by decide) rfl rfl (WS' := (w_X11_whole a0 q_found q_found_sheets q_found_sheets_olds q_found_sheets_youngs q_found_sheets_marshes q_text q_ocean q_trees q_images q_search q_stories q_signs q_calendar q_draft q_found_books q_found_known q_found_weights cA s_yearOfNow s_found_dugMarshes s_found_kept s_found_sheets_count s_found_sheets_olds s_found_sheets_youngs s_found_sheets_marshes)) (WR := [(a0, .inr (11, [.ref q_text, .ref q_ocean, .ref q_trees, .ref q_found, .ref q_images, .ref q_search, .ref q_stories, .ref q_signs, .ref q_calendar, .ref q_draft, .int s_yearOfNow])), (q_found, .inr (2, [.ref q_found_books, .ref q_found_sheets, .ref q_found_known, .ref q_found_weights, .int s_found_dugMarshes, .int s_found_kept]))]) rfl rfl rfl rfl (by decide) (by decide) 2 6 rfl rfl rfl hl.1 rfl (st' := [.int r_4]) rfl (Nat.le_of_ble_eq_true rfl) ⟨Nat.zero_le _, Nat.zero_le _⟩ dX11_whole_16 (fun H locs hP hD hS => ?_)
    refine lv_istore_n (lv' := [(2, .int r_4), (0, .ref a0), (1, .int x1)]) hx hb dX11_whole_19 rfl hl (by decide) rfl (fun ls hl => ?_)
    refine lv_iload_n hx hb dX11_whole_20 rfl (lv_at hl 0 rfl) ?_
    refine lv_bipush (v := (-9 : Int32)) hx hb dX11_whole_21 (by decide) ?_
    refine lv_icmp_eq (tgt := 30) hx hb dX11_whole_23 (by decide) (fun c_6 => ?_) (fun c_6 => ?_)
    · have hf := pbr_t c_6 hf
      refine lv_iload_n hx hb dX11_whole_30 rfl (lv_at hl 0 rfl) ?_
      obtain rfl := pe1 hf
      exact m_iret hx hb hr hlocks hP hS dX11_whole_31
    have hf := pbr_f c_6 hf
    refine lv_iload_n hx hb dX11_whole_26 rfl (lv_at hl 2 rfl) ?_
    refine lv_if_ne (tgt := 32) hx hb dX11_whole_27 (by decide) (fun c_7 => ?_) (fun c_7 => ?_)
    · have hf := pbr_f c_7 hf
      refine lv_aload_n hx hb dX11_whole_32 rfl (lv_at hl 1 rfl) ?_
      refine va_get (D := D) (ci := 11) (v := .ref q_found) (C := RX11) (T := TX11) (N := 11) hx hb hts hn_X11_whole_X11 hown hK hP 0 rfl rfl 3 (by decide) (hts _ hw_X11_whole_f33) (fun _ h9 => h9) rfl dX11_whole_33 ?_
      refine va_getN (D := D) (ci := 2) (v := .ref q_found_sheets) (C := RX2) (T := TX2) (N := 6) hx hb hts hn_X11_whole_X2 hown hK hP 1 rfl rfl 1 (by decide) (va_Nw.use rfl (hN _ nw_X11_250)) (fun _ h9 => h9) rfl dX11_whole_36 ?_
      refine lv_iload_n hx hb dX11_whole_39 rfl (lv_at hl 0 rfl) ?_
      obtain ⟨r_8, hc_9, hf⟩ := pcl_e hf
      refine m_callV2 (As := [.int r_4]) (rest := []) ⟨hx, hb, hml, hown, hts⟩ hX (ct_X6_marshesAt l D cA r_4 q_found_sheets q_found_sheets_olds q_found_sheets_youngs q_found_sheets_marshes s_found_sheets_count s_found_sheets_olds s_found_sheets_youngs s_found_sheets_marshes r_8 hc_9) (cwV 1 hts gX11_whole_X6_marshesAt rfl rfl rfl (by decide +kernel) ⟨Nat.le_of_ble_eq_true rfl, Nat.le_of_ble_eq_true rfl⟩) hP hD hS hA [2, 3, 4, 5] [0, 1] 6 (by decide) rfl rfl (WS' := (w_X11_whole a0 q_found q_found_sheets q_found_sheets_olds q_found_sheets_youngs q_found_sheets_marshes q_text q_ocean q_trees q_images q_search q_stories q_signs q_calendar q_draft q_found_books q_found_known q_found_weights cA s_yearOfNow s_found_dugMarshes s_found_kept s_found_sheets_count s_found_sheets_olds s_found_sheets_youngs s_found_sheets_marshes)) (WR := [(a0, .inr (11, [.ref q_text, .ref q_ocean, .ref q_trees, .ref q_found, .ref q_images, .ref q_search, .ref q_stories, .ref q_signs, .ref q_calendar, .ref q_draft, .int s_yearOfNow])), (q_found, .inr (2, [.ref q_found_books, .ref q_found_sheets, .ref q_found_known, .ref q_found_weights, .int s_found_dugMarshes, .int s_found_kept]))]) rfl rfl rfl rfl (by decide) (by decide) 2 6 rfl rfl rfl hl.1 rfl (st' := [.int r_8]) rfl (Nat.le_of_ble_eq_true rfl) ⟨Nat.zero_le _, Nat.zero_le _⟩ dX11_whole_40 (fun H locs hP hD hS => ?_)
      obtain ⟨r_10, hc_11, hf⟩ := pcl_e hf
      refine m_callS2 (As := [.int r_8]) (rest := []) ⟨hx, hb, hml, hown, hts⟩ hX (ct_J6_bitCount_0f7a4 l D cA r_8 r_10 hc_11) (va_cwS 1 hts gX11_whole_J6_bitCount_0f7a4 rfl rfl rfl (by decide +kernel) ⟨Nat.le_of_ble_eq_true rfl, Nat.le_of_ble_eq_true rfl⟩) hP hD hS hA [] [0, 1, 2, 3, 4, 5] 6 (by decide) rfl rfl (WS' := (w_X11_whole a0 q_found q_found_sheets q_found_sheets_olds q_found_sheets_youngs q_found_sheets_marshes q_text q_ocean q_trees q_images q_search q_stories q_signs q_calendar q_draft q_found_books q_found_known q_found_weights cA s_yearOfNow s_found_dugMarshes s_found_kept s_found_sheets_count s_found_sheets_olds s_found_sheets_youngs s_found_sheets_marshes)) (WR := [(a0, .inr (11, [.ref q_text, .ref q_ocean, .ref q_trees, .ref q_found, .ref q_images, .ref q_search, .ref q_stories, .ref q_signs, .ref q_calendar, .ref q_draft, .int s_yearOfNow])), (q_found, .inr (2, [.ref q_found_books, .ref q_found_sheets, .ref q_found_known, .ref q_found_weights, .int s_found_dugMarshes, .int s_found_kept])), (q_found_sheets, .inr (6, [.ref q_found_sheets_marshes, .ref q_found_sheets_olds, .ref q_found_sheets_youngs, .int s_found_sheets_count])), (q_found_sheets_olds, .inl (cA 1, 12, .inl s_found_sheets_olds)), (q_found_sheets_youngs, .inl (cA 1, 12, .inl s_found_sheets_youngs)), (q_found_sheets_marshes, .inl (cA 1, 12, .inl s_found_sheets_marshes))]) rfl rfl rfl rfl (by decide) (by decide) rfl hl.1 rfl (st' := [.int r_10]) rfl (Nat.le_of_ble_eq_true rfl) ⟨Nat.zero_le _, Nat.zero_le _⟩ dX11_whole_43 (fun H locs hP hD hS => ?_)
      obtain rfl := pe1 hf
      exact m_iret hx hb hr hlocks hP hS dX11_whole_46
    have hf := pbr_t c_7 hf
    refine lv_iload_n hx hb dX11_whole_30 rfl (lv_at hl 0 rfl) ?_
    obtain rfl := pe1 hf
    exact m_iret hx hb hr hlocks hP hS dX11_whole_31
  have hf := pbr_t c_3 hf
  refine lv_iconst (v := (-1 : Int32)) hx hb dX11_whole_7 (by decide) ?_
  obtain rfl := pe1 hf
  exact m_iret hx hb hr hlocks hP hS dX11_whole_8

/-! ===== OrphanWave.tale(IIIII)I ===== -/
abbrev rm_X11_tale : Room := { frames := 2, cells := 0, slots := 0, locals := 42 }
abbrev w_X11_tale (a0 : Nat) (q_text : Nat) (q_ocean : Nat) (q_trees : Nat) (q_found : Nat) (q_images : Nat) (q_search : Nat) (q_stories : Nat) (q_signs : Nat) (q_calendar : Nat) (q_draft : Nat) (cA : Nat → ClassId) (s_yearOfNow : Int32) : va_W := [(a0, .inr (11, [.ref q_text, .ref q_ocean, .ref q_trees, .ref q_found, .ref q_images, .ref q_search, .ref q_stories, .ref q_signs, .ref q_calendar, .ref q_draft, .int s_yearOfNow]))]
theorem hw_X11_tale_c163 : Cond.constant RX11 163 (-1000000) ∈ wsX11_tale := by decide +kernel

def f_X11_tale (x1 : Int32) (x2 : Int32) (x3 : Int32) (x4 : Int32) (x5 : Int32) : Option ((Int32)) :=
  pcl (f_X11_isYear x1) (fun r_1 => (
  pbr (r_1 = 0)
    (some ((-1000000 : Int32)))
    (pcl (f_X11_within x2 (0 : Int32) (50 : Int32)) (fun r_4 => (
    pbr (r_4 = 0)
      (some ((-1000000 : Int32)))
      (pcl (f_X11_isBit x5) (fun r_7 => (
      pbr (r_7 = 0)
        (some ((-1000000 : Int32)))
        (pcl (f_X11_isSpan x3 x4 (1 : Int32) (99 : Int32)) (fun r_10 => (
        pbr (r_10 = 0)
          (some ((-1000000 : Int32)))
          (pbr (x5 = 0)
            (some ((x1 - (x2 * x4))))
            (some ((x1 - (x2 * x3))))))))))))))))

set_option maxRecDepth 100000 in
set_option maxHeartbeats 4000000 in
theorem ct_X11_tale (l : Launch) (D : va_G) (cA : Nat → ClassId) (x1 : Int32) (x2 : Int32) (x3 : Int32) (x4 : Int32) (x5 : Int32) (a0 : Nat) (q_text : Nat) (q_ocean : Nat) (q_trees : Nat) (q_found : Nat) (q_images : Nat) (q_search : Nat) (q_stories : Nat) (q_signs : Nat) (q_calendar : Nat) (q_draft : Nat) (s_yearOfNow : Int32) (o_r : Int32) (hf : f_X11_tale x1 x2 x3 x4 x5 = some o_r) : CT l yX11_tale wsX11_tale rm_X11_tale D cA [.ref a0, .int x1, .int x2, .int x3, .int x4, .int x5] (w_X11_tale a0 q_text q_ocean q_trees q_found q_images q_search q_stories q_signs q_calendar q_draft cA s_yearOfNow) (w_X11_tale a0 q_text q_ocean q_trees q_found q_images q_search q_stories q_signs q_calendar q_draft cA s_yearOfNow) (some (.int o_r)) := by
  refine CT.ofW (cc := cX11_tale) (maxL := 6) (ret := (some .int)) (by decide +kernel) rfl (Nat.le_of_ble_eq_true rfl) ?_
  intro p e s m below meth c A C0 hA hP hD ls hl
  have C0 : MX p s m [.ref a0, .int x1, .int x2, .int x3, .int x4, .int x5].toArray meth c cX11_tale 6 wsX11_tale RX11 (some .int) D cA := C0
  have hl : lv_has ls 6 [(0, .ref a0), (1, .int x1), (2, .int x2), (3, .int x3), (4, .int x4), (5, .int x5)] := hl
  obtain ⟨hx, hb, hml, hown, hts, hr, hlocks, hX⟩ := id C0
  have hK := hX.1
  have hN := hX.2
  have hS : va_S A s.heap s.heap [] := va_S.rf
  unfold f_X11_tale at hf
  refine lv_iload_n hx hb dX11_tale_0 rfl (lv_at hl 1 rfl) ?_
  obtain ⟨r_1, hc_2, hf⟩ := pcl_e hf
  refine m_callS2 (As := [.int x1]) (rest := []) ⟨hx, hb, hml, hown, hts⟩ hX (ct_X11_isYear l D cA x1 r_1 hc_2) (va_cwS 1 hts gX11_tale_X11_isYear rfl rfl rfl (by decide +kernel) ⟨Nat.le_of_ble_eq_true rfl, Nat.le_of_ble_eq_true rfl⟩) hP hD hS hA [] [0] 1 (by decide) rfl rfl (WS' := (w_X11_tale a0 q_text q_ocean q_trees q_found q_images q_search q_stories q_signs q_calendar q_draft cA s_yearOfNow)) (WR := [(a0, .inr (11, [.ref q_text, .ref q_ocean, .ref q_trees, .ref q_found, .ref q_images, .ref q_search, .ref q_stories, .ref q_signs, .ref q_calendar, .ref q_draft, .int s_yearOfNow]))]) rfl rfl rfl rfl (by decide) (by decide) rfl hl.1 rfl (st' := [.int r_1]) rfl (Nat.le_of_ble_eq_true rfl) ⟨Nat.zero_le _, Nat.zero_le _⟩ dX11_tale_1 (fun H locs hP hD hS => ?_)
  refine lv_if_eq (tgt := 25) hx hb dX11_tale_4 (by decide) (fun c_3 => ?_) (fun c_3 => ?_)
  · have hf := pbr_t c_3 hf
    refine lv_ldc (v := (-1000000 : Int32)) hx hb hown (hts _ hw_X11_tale_c163) dX11_tale_25 ?_
    obtain rfl := pe1 hf
    exact m_iret hx hb hr hlocks hP hS dX11_tale_27
  have hf := pbr_f c_3 hf
  refine lv_iload_n hx hb dX11_tale_7 rfl (lv_at hl 2 rfl) ?_
  refine lv_iconst (v := (0 : Int32)) hx hb dX11_tale_8 (by decide) ?_
  refine lv_bipush (v := (50 : Int32)) hx hb dX11_tale_9 (by decide) ?_
  obtain ⟨r_4, hc_5, hf⟩ := pcl_e hf
  refine m_callS2 (As := [.int x2, .int (0 : Int32), .int (50 : Int32)]) (rest := []) ⟨hx, hb, hml, hown, hts⟩ hX (ct_X11_within l D cA x2 (0 : Int32) (50 : Int32) r_4 hc_5) (va_cwS 3 hts gX11_tale_X11_within rfl rfl rfl (by decide +kernel) ⟨Nat.le_of_ble_eq_true rfl, Nat.le_of_ble_eq_true rfl⟩) hP hD hS hA [] [0] 1 (by decide) rfl rfl (WS' := (w_X11_tale a0 q_text q_ocean q_trees q_found q_images q_search q_stories q_signs q_calendar q_draft cA s_yearOfNow)) (WR := [(a0, .inr (11, [.ref q_text, .ref q_ocean, .ref q_trees, .ref q_found, .ref q_images, .ref q_search, .ref q_stories, .ref q_signs, .ref q_calendar, .ref q_draft, .int s_yearOfNow]))]) rfl rfl rfl rfl (by decide) (by decide) rfl hl.1 rfl (st' := [.int r_4]) rfl (Nat.le_of_ble_eq_true rfl) ⟨Nat.zero_le _, Nat.zero_le _⟩ dX11_tale_11 (fun H locs hP hD hS => ?_)
  refine lv_if_eq (tgt := 25) hx hb dX11_tale_14 (by decide) (fun c_6 => ?_) (fun c_6 => ?_)
  · have hf := pbr_t c_6 hf
    refine lv_ldc (v := (-1000000 : Int32)) hx hb hown (hts _ hw_X11_tale_c163) dX11_tale_25 ?_
    obtain rfl := pe1 hf
    exact m_iret hx hb hr hlocks hP hS dX11_tale_27
  have hf := pbr_f c_6 hf
  refine lv_iload hx hb dX11_tale_17 (lv_at hl 5 rfl) ?_
  obtain ⟨r_7, hc_8, hf⟩ := pcl_e hf
  refine m_callS2 (As := [.int x5]) (rest := []) ⟨hx, hb, hml, hown, hts⟩ hX (ct_X11_isBit l D cA x5 r_7 hc_8) (va_cwS 1 hts gX11_tale_X11_isBit rfl rfl rfl (by decide +kernel) ⟨Nat.le_of_ble_eq_true rfl, Nat.le_of_ble_eq_true rfl⟩) hP hD hS hA [] [0] 1 (by decide) rfl rfl (WS' := (w_X11_tale a0 q_text q_ocean q_trees q_found q_images q_search q_stories q_signs q_calendar q_draft cA s_yearOfNow)) (WR := [(a0, .inr (11, [.ref q_text, .ref q_ocean, .ref q_trees, .ref q_found, .ref q_images, .ref q_search, .ref q_stories, .ref q_signs, .ref q_calendar, .ref q_draft, .int s_yearOfNow]))]) rfl rfl rfl rfl (by decide) (by decide) rfl hl.1 rfl (st' := [.int r_7]) rfl (Nat.le_of_ble_eq_true rfl) ⟨Nat.zero_le _, Nat.zero_le _⟩ dX11_tale_19 (fun H locs hP hD hS => ?_)
  refine lv_if_ne (tgt := 28) hx hb dX11_tale_22 (by decide) (fun c_9 => ?_) (fun c_9 => ?_)
  · have hf := pbr_f c_9 hf
    refine lv_iload_n hx hb dX11_tale_28 rfl (lv_at hl 3 rfl) ?_
    refine lv_iload hx hb dX11_tale_29 (lv_at hl 4 rfl) ?_
    refine lv_iconst (v := (1 : Int32)) hx hb dX11_tale_31 (by decide) ?_
    refine lv_bipush (v := (99 : Int32)) hx hb dX11_tale_32 (by decide) ?_
    obtain ⟨r_10, hc_11, hf⟩ := pcl_e hf
    refine m_callS2 (As := [.int x3, .int x4, .int (1 : Int32), .int (99 : Int32)]) (rest := []) ⟨hx, hb, hml, hown, hts⟩ hX (ct_X11_isSpan l D cA x3 x4 (1 : Int32) (99 : Int32) r_10 hc_11) (va_cwS 4 hts gX11_tale_X11_isSpan rfl rfl rfl (by decide +kernel) ⟨Nat.le_of_ble_eq_true rfl, Nat.le_of_ble_eq_true rfl⟩) hP hD hS hA [] [0] 1 (by decide) rfl rfl (WS' := (w_X11_tale a0 q_text q_ocean q_trees q_found q_images q_search q_stories q_signs q_calendar q_draft cA s_yearOfNow)) (WR := [(a0, .inr (11, [.ref q_text, .ref q_ocean, .ref q_trees, .ref q_found, .ref q_images, .ref q_search, .ref q_stories, .ref q_signs, .ref q_calendar, .ref q_draft, .int s_yearOfNow]))]) rfl rfl rfl rfl (by decide) (by decide) rfl hl.1 rfl (st' := [.int r_10]) rfl (Nat.le_of_ble_eq_true rfl) ⟨Nat.zero_le _, Nat.zero_le _⟩ dX11_tale_34 (fun H locs hP hD hS => ?_)
    refine lv_if_ne (tgt := 43) hx hb dX11_tale_37 (by decide) (fun c_12 => ?_) (fun c_12 => ?_)
    · have hf := pbr_f c_12 hf
      refine lv_iload_n hx hb dX11_tale_43 rfl (lv_at hl 1 rfl) ?_
      refine lv_iload_n hx hb dX11_tale_44 rfl (lv_at hl 2 rfl) ?_
      refine lv_iload hx hb dX11_tale_45 (lv_at hl 5 rfl) ?_
      refine lv_if_ne (tgt := 55) hx hb dX11_tale_47 (by decide) (fun c_13 => ?_) (fun c_13 => ?_)
      · have hf := pbr_f c_13 hf
        refine lv_iload_n hx hb dX11_tale_55 rfl (lv_at hl 3 rfl) ?_
        refine lv_imul hx hb dX11_tale_56 ?_
        refine lv_isub hx hb dX11_tale_57 ?_
        obtain rfl := pe1 hf
        exact m_iret hx hb hr hlocks hP hS dX11_tale_58
      have hf := pbr_t c_13 hf
      refine lv_iload hx hb dX11_tale_50 (lv_at hl 4 rfl) ?_
      refine lv_goto (tgt := 56) hx hb dX11_tale_52 (by decide) ?_
      refine lv_imul hx hb dX11_tale_56 ?_
      refine lv_isub hx hb dX11_tale_57 ?_
      obtain rfl := pe1 hf
      exact m_iret hx hb hr hlocks hP hS dX11_tale_58
    have hf := pbr_t c_12 hf
    refine lv_ldc (v := (-1000000 : Int32)) hx hb hown (hts _ hw_X11_tale_c163) dX11_tale_40 ?_
    obtain rfl := pe1 hf
    exact m_iret hx hb hr hlocks hP hS dX11_tale_42
  have hf := pbr_t c_9 hf
  refine lv_ldc (v := (-1000000 : Int32)) hx hb hown (hts _ hw_X11_tale_c163) dX11_tale_25 ?_
  obtain rfl := pe1 hf
  exact m_iret hx hb hr hlocks hP hS dX11_tale_27

/-! ===== OrphanWave.known(I)I ===== -/
abbrev rm_X11_known : Room := { frames := 2, cells := 0, slots := 0, locals := 42 }
abbrev w_X11_known (a0 : Nat) (q_found : Nat) (q_found_known : Nat) (q_found_known_years : Nat) (q_text : Nat) (q_ocean : Nat) (q_trees : Nat) (q_images : Nat) (q_search : Nat) (q_stories : Nat) (q_signs : Nat) (q_calendar : Nat) (q_draft : Nat) (q_found_books : Nat) (q_found_sheets : Nat) (q_found_weights : Nat) (cA : Nat → ClassId) (s_yearOfNow : Int32) (s_found_dugMarshes : Int32) (s_found_kept : Int32) (s_found_known_count : Int32) (s_found_known_years : Nat → Int32) : va_W := [(a0, .inr (11, [.ref q_text, .ref q_ocean, .ref q_trees, .ref q_found, .ref q_images, .ref q_search, .ref q_stories, .ref q_signs, .ref q_calendar, .ref q_draft, .int s_yearOfNow])), (q_found, .inr (2, [.ref q_found_books, .ref q_found_sheets, .ref q_found_known, .ref q_found_weights, .int s_found_dugMarshes, .int s_found_kept])), (q_found_known, .inr (3, [.ref q_found_known_years, .int s_found_known_count])), (q_found_known_years, .inl (cA 1, 16, .inl s_found_known_years))]
theorem hn_X11_known_X11 : ∀ w ∈ u_ws RX11 TX11 11, w ∈ wsX11_known := by decide +kernel
theorem hn_X11_known_X2 : ∀ w ∈ u_ws RX2 TX2 6, w ∈ wsX11_known := by decide +kernel
theorem hn_X11_known_X3 : ∀ w ∈ u_ws RX3 TX3 2, w ∈ wsX11_known := by decide +kernel
theorem hw_X11_known_f33 : Cond.fieldLink RX11 33 "OrphanWave" "found" "LOrphanWave$Findings;" ∈ wsX11_known := by decide +kernel

def f_X11_known (x1 : Int32) (s_found_known_count : Int32) (s_found_known_years : Nat → Int32) : Option ((Int32) × (Int32) × (Nat → Int32)) :=
  pcl (f_X11_isYear x1) (fun r_1 => (
  pbr (r_1 = 0)
    (some ((-1 : Int32), s_found_known_count, s_found_known_years))
    (pcl (f_X3_isLater x1 s_found_known_count s_found_known_years) (fun r_4 => (
    pbr (r_4 = 0)
      (some ((-1 : Int32), s_found_known_count, s_found_known_years))
      (pbr (s_found_known_count < (16 : Int32))
        (pcl (f_X3_add x1 s_found_known_count s_found_known_years) (fun (r_8, count_9, years_10) => (
        some (r_8, count_9, years_10))))
        (some ((-3 : Int32), s_found_known_count, s_found_known_years))))))))

set_option maxRecDepth 100000 in
set_option maxHeartbeats 4000000 in
theorem ct_X11_known (l : Launch) (D : va_G) (cA : Nat → ClassId) (x1 : Int32) (a0 : Nat) (q_found : Nat) (q_found_known : Nat) (q_found_known_years : Nat) (q_text : Nat) (q_ocean : Nat) (q_trees : Nat) (q_images : Nat) (q_search : Nat) (q_stories : Nat) (q_signs : Nat) (q_calendar : Nat) (q_draft : Nat) (q_found_books : Nat) (q_found_sheets : Nat) (q_found_weights : Nat) (s_yearOfNow : Int32) (s_found_dugMarshes : Int32) (s_found_kept : Int32) (s_found_known_count : Int32) (s_found_known_years : Nat → Int32) (o_r : Int32) (o_found_known_count : Int32) (o_found_known_years : Nat → Int32) (hf : f_X11_known x1 s_found_known_count s_found_known_years = some (o_r, o_found_known_count, o_found_known_years)) : CT l yX11_known wsX11_known rm_X11_known D cA [.ref a0, .int x1] (w_X11_known a0 q_found q_found_known q_found_known_years q_text q_ocean q_trees q_images q_search q_stories q_signs q_calendar q_draft q_found_books q_found_sheets q_found_weights cA s_yearOfNow s_found_dugMarshes s_found_kept s_found_known_count s_found_known_years) (w_X11_known a0 q_found q_found_known q_found_known_years q_text q_ocean q_trees q_images q_search q_stories q_signs q_calendar q_draft q_found_books q_found_sheets q_found_weights cA s_yearOfNow s_found_dugMarshes s_found_kept o_found_known_count o_found_known_years) (some (.int o_r)) := by
  refine CT.ofW (cc := cX11_known) (maxL := 2) (ret := (some .int)) (by decide +kernel) rfl (Nat.le_of_ble_eq_true rfl) ?_
  intro p e s m below meth c A C0 hA hP hD ls hl
  have C0 : MX p s m [.ref a0, .int x1].toArray meth c cX11_known 2 wsX11_known RX11 (some .int) D cA := C0
  have hl : lv_has ls 2 [(0, .ref a0), (1, .int x1)] := hl
  obtain ⟨hx, hb, hml, hown, hts, hr, hlocks, hX⟩ := id C0
  have hK := hX.1
  have hN := hX.2
  have hS : va_S A s.heap s.heap [] := va_S.rf
  unfold f_X11_known at hf
  refine lv_iload_n hx hb dX11_known_0 rfl (lv_at hl 1 rfl) ?_
  obtain ⟨r_1, hc_2, hf⟩ := pcl_e hf
  refine m_callS2 (As := [.int x1]) (rest := []) ⟨hx, hb, hml, hown, hts⟩ hX (ct_X11_isYear l D cA x1 r_1 hc_2) (va_cwS 1 hts gX11_known_X11_isYear rfl rfl rfl (by decide +kernel) ⟨Nat.le_of_ble_eq_true rfl, Nat.le_of_ble_eq_true rfl⟩) hP hD hS hA [] [0, 1, 2, 3] 4 (by decide) rfl rfl (WS' := (w_X11_known a0 q_found q_found_known q_found_known_years q_text q_ocean q_trees q_images q_search q_stories q_signs q_calendar q_draft q_found_books q_found_sheets q_found_weights cA s_yearOfNow s_found_dugMarshes s_found_kept s_found_known_count s_found_known_years)) (WR := [(a0, .inr (11, [.ref q_text, .ref q_ocean, .ref q_trees, .ref q_found, .ref q_images, .ref q_search, .ref q_stories, .ref q_signs, .ref q_calendar, .ref q_draft, .int s_yearOfNow])), (q_found, .inr (2, [.ref q_found_books, .ref q_found_sheets, .ref q_found_known, .ref q_found_weights, .int s_found_dugMarshes, .int s_found_kept])), (q_found_known, .inr (3, [.ref q_found_known_years, .int s_found_known_count])), (q_found_known_years, .inl (cA 1, 16, .inl s_found_known_years))]) rfl rfl rfl rfl (by decide) (by decide) rfl hl.1 rfl (st' := [.int r_1]) rfl (Nat.le_of_ble_eq_true rfl) ⟨Nat.zero_le _, Nat.zero_le _⟩ dX11_known_1 (fun H locs hP hD hS => ?_)
  refine lv_if_eq (tgt := 21) hx hb dX11_known_4 (by decide) (fun c_3 => ?_) (fun c_3 => ?_)
  · have hf := pbr_t c_3 hf
    refine lv_iconst (v := (-1 : Int32)) hx hb dX11_known_21 (by decide) ?_
    obtain ⟨rfl, rfl, rfl⟩ := pe3 hf
    exact m_iret hx hb hr hlocks hP hS dX11_known_22
  have hf := pbr_f c_3 hf
  refine lv_aload_n hx hb dX11_known_7 rfl (lv_at hl 0 rfl) ?_
  refine va_get (D := D) (ci := 11) (v := .ref q_found) (C := RX11) (T := TX11) (N := 11) hx hb hts hn_X11_known_X11 hown hK hP 0 rfl rfl 3 (by decide) (hts _ hw_X11_known_f33) (fun _ h9 => h9) rfl dX11_known_8 ?_
  refine va_getN (D := D) (ci := 2) (v := .ref q_found_known) (C := RX2) (T := TX2) (N := 6) hx hb hts hn_X11_known_X2 hown hK hP 1 rfl rfl 2 (by decide) (va_Nw.use rfl (hN _ nw_X11_290)) (fun _ h9 => h9) rfl dX11_known_11 ?_
  refine lv_iload_n hx hb dX11_known_14 rfl (lv_at hl 1 rfl) ?_
  obtain ⟨r_4, hc_5, hf⟩ := pcl_e hf
  refine m_callV2 (As := [.int x1]) (rest := []) ⟨hx, hb, hml, hown, hts⟩ hX (ct_X3_isLater l D cA x1 q_found_known q_found_known_years s_found_known_count s_found_known_years r_4 hc_5) (cwV 1 hts gX11_known_X3_isLater rfl rfl rfl (by decide +kernel) ⟨Nat.le_of_ble_eq_true rfl, Nat.le_of_ble_eq_true rfl⟩) hP hD hS hA [2, 3] [0, 1] 4 (by decide) rfl rfl (WS' := (w_X11_known a0 q_found q_found_known q_found_known_years q_text q_ocean q_trees q_images q_search q_stories q_signs q_calendar q_draft q_found_books q_found_sheets q_found_weights cA s_yearOfNow s_found_dugMarshes s_found_kept s_found_known_count s_found_known_years)) (WR := [(a0, .inr (11, [.ref q_text, .ref q_ocean, .ref q_trees, .ref q_found, .ref q_images, .ref q_search, .ref q_stories, .ref q_signs, .ref q_calendar, .ref q_draft, .int s_yearOfNow])), (q_found, .inr (2, [.ref q_found_books, .ref q_found_sheets, .ref q_found_known, .ref q_found_weights, .int s_found_dugMarshes, .int s_found_kept]))]) rfl rfl rfl rfl (by decide) (by decide) 2 3 rfl rfl rfl hl.1 rfl (st' := [.int r_4]) rfl (Nat.le_of_ble_eq_true rfl) ⟨Nat.zero_le _, Nat.zero_le _⟩ dX11_known_15 (fun H locs hP hD hS => ?_)
  refine lv_if_ne (tgt := 23) hx hb dX11_known_18 (by decide) (fun c_6 => ?_) (fun c_6 => ?_)
  · have hf := pbr_f c_6 hf
    refine lv_aload_n hx hb dX11_known_23 rfl (lv_at hl 0 rfl) ?_
    refine va_get (D := D) (ci := 11) (v := .ref q_found) (C := RX11) (T := TX11) (N := 11) hx hb hts hn_X11_known_X11 hown hK hP 0 rfl rfl 3 (by decide) (hts _ hw_X11_known_f33) (fun _ h9 => h9) rfl dX11_known_24 ?_
    refine va_getN (D := D) (ci := 2) (v := .ref q_found_known) (C := RX2) (T := TX2) (N := 6) hx hb hts hn_X11_known_X2 hown hK hP 1 rfl rfl 2 (by decide) (va_Nw.use rfl (hN _ nw_X11_290)) (fun _ h9 => h9) rfl dX11_known_27 ?_
    refine va_getN (D := D) (ci := 3) (v := .int s_found_known_count) (C := RX3) (T := TX3) (N := 2) hx hb hts hn_X11_known_X3 hown hK hP 2 rfl rfl 1 (by decide) (va_Nw.use rfl (hN _ nw_X11_299)) (fun _ h9 => h9) rfl dX11_known_30 ?_
    refine lv_bipush (v := (16 : Int32)) hx hb dX11_known_33 (by decide) ?_
    refine lv_icmp_lt (tgt := 43) hx hb dX11_known_35 (by decide) (fun c_7 => ?_) (fun c_7 => ?_)
    · have hf := pbr_t c_7 hf
      refine lv_aload_n hx hb dX11_known_43 rfl (lv_at hl 0 rfl) ?_
      refine va_get (D := D) (ci := 11) (v := .ref q_found) (C := RX11) (T := TX11) (N := 11) hx hb hts hn_X11_known_X11 hown hK hP 0 rfl rfl 3 (by decide) (hts _ hw_X11_known_f33) (fun _ h9 => h9) rfl dX11_known_44 ?_
      refine va_getN (D := D) (ci := 2) (v := .ref q_found_known) (C := RX2) (T := TX2) (N := 6) hx hb hts hn_X11_known_X2 hown hK hP 1 rfl rfl 2 (by decide) (va_Nw.use rfl (hN _ nw_X11_290)) (fun _ h9 => h9) rfl dX11_known_47 ?_
      refine lv_iload_n hx hb dX11_known_50 rfl (lv_at hl 1 rfl) ?_
      obtain ⟨⟨r_8, count_9, years_10⟩, hc_11, hf⟩ := pcl_e hf
      refine m_callV2 (As := [.int x1]) (rest := []) ⟨hx, hb, hml, hown, hts⟩ hX (ct_X3_add l D cA x1 q_found_known q_found_known_years s_found_known_count s_found_known_years r_8 count_9 years_10 hc_11) (cwV 1 hts gX11_known_X3_add rfl rfl rfl (by decide +kernel) ⟨Nat.le_of_ble_eq_true rfl, Nat.le_of_ble_eq_true rfl⟩) hP hD hS hA [2, 3] [0, 1] 4 (by decide) rfl rfl (WS' := (w_X11_known a0 q_found q_found_known q_found_known_years q_text q_ocean q_trees q_images q_search q_stories q_signs q_calendar q_draft q_found_books q_found_sheets q_found_weights cA s_yearOfNow s_found_dugMarshes s_found_kept count_9 years_10)) (WR := [(a0, .inr (11, [.ref q_text, .ref q_ocean, .ref q_trees, .ref q_found, .ref q_images, .ref q_search, .ref q_stories, .ref q_signs, .ref q_calendar, .ref q_draft, .int s_yearOfNow])), (q_found, .inr (2, [.ref q_found_books, .ref q_found_sheets, .ref q_found_known, .ref q_found_weights, .int s_found_dugMarshes, .int s_found_kept]))]) rfl rfl rfl rfl (by decide) (by decide) 2 3 rfl rfl rfl hl.1 rfl (st' := [.int r_8]) rfl (Nat.le_of_ble_eq_true rfl) ⟨Nat.zero_le _, Nat.zero_le _⟩ dX11_known_51 (fun H locs hP hD hS => ?_)
      obtain ⟨rfl, rfl, rfl⟩ := pe3 hf
      exact m_iret hx hb hr hlocks hP hS dX11_known_54
    have hf := pbr_f c_7 hf
    refine lv_bipush (v := (-3 : Int32)) hx hb dX11_known_38 (by decide) ?_
    refine lv_goto (tgt := 54) hx hb dX11_known_40 (by decide) ?_
    obtain ⟨rfl, rfl, rfl⟩ := pe3 hf
    exact m_iret hx hb hr hlocks hP hS dX11_known_54
  have hf := pbr_t c_6 hf
  refine lv_iconst (v := (-1 : Int32)) hx hb dX11_known_21 (by decide) ?_
  obtain ⟨rfl, rfl, rfl⟩ := pe3 hf
  exact m_iret hx hb hr hlocks hP hS dX11_known_22

/-! ===== OrphanWave.next(II)I ===== -/
abbrev rm_X11_next : Room := { frames := 2, cells := 0, slots := 0, locals := 57 }
abbrev w_X11_next (a0 : Nat) (q_found : Nat) (q_found_known : Nat) (q_found_known_years : Nat) (q_text : Nat) (q_ocean : Nat) (q_trees : Nat) (q_images : Nat) (q_search : Nat) (q_stories : Nat) (q_signs : Nat) (q_calendar : Nat) (q_draft : Nat) (q_found_books : Nat) (q_found_sheets : Nat) (q_found_weights : Nat) (cA : Nat → ClassId) (s_yearOfNow : Int32) (s_found_dugMarshes : Int32) (s_found_kept : Int32) (s_found_known_count : Int32) (s_found_known_years : Nat → Int32) : va_W := [(a0, .inr (11, [.ref q_text, .ref q_ocean, .ref q_trees, .ref q_found, .ref q_images, .ref q_search, .ref q_stories, .ref q_signs, .ref q_calendar, .ref q_draft, .int s_yearOfNow])), (q_found, .inr (2, [.ref q_found_books, .ref q_found_sheets, .ref q_found_known, .ref q_found_weights, .int s_found_dugMarshes, .int s_found_kept])), (q_found_known, .inr (3, [.ref q_found_known_years, .int s_found_known_count])), (q_found_known_years, .inl (cA 1, 16, .inl s_found_known_years))]
theorem hn_X11_next_X11 : ∀ w ∈ u_ws RX11 TX11 11, w ∈ wsX11_next := by decide +kernel
theorem hn_X11_next_X2 : ∀ w ∈ u_ws RX2 TX2 6, w ∈ wsX11_next := by decide +kernel
theorem hw_X11_next_c163 : Cond.constant RX11 163 (-1000000) ∈ wsX11_next := by decide +kernel
theorem hw_X11_next_f33 : Cond.fieldLink RX11 33 "OrphanWave" "found" "LOrphanWave$Findings;" ∈ wsX11_next := by decide +kernel
theorem hw_X11_next_f80 : Cond.fieldLink RX11 80 "OrphanWave" "yearOfNow" "I" ∈ wsX11_next := by decide +kernel

def f_X11_next (x1 : Int32) (x2 : Int32) (s_yearOfNow : Int32) (s_found_known_count : Int32) (s_found_known_years : Nat → Int32) : Option ((Int32)) :=
  pcl (f_X11_within x1 (0 : Int32) (9999 : Int32)) (fun r_1 => (
  pbr (r_1 = 0)
    (some ((-1000000 : Int32)))
    (pcl (f_X11_isBit x2) (fun r_4 => (
    pbr (r_4 = 0)
      (some ((-1000000 : Int32)))
      (pcl (f_X3_outlook s_yearOfNow x1 x2 s_found_known_count s_found_known_years) (fun r_7 => (
      some (r_7)))))))))

set_option maxRecDepth 100000 in
set_option maxHeartbeats 4000000 in
theorem ct_X11_next (l : Launch) (D : va_G) (cA : Nat → ClassId) (x1 : Int32) (x2 : Int32) (a0 : Nat) (q_found : Nat) (q_found_known : Nat) (q_found_known_years : Nat) (q_text : Nat) (q_ocean : Nat) (q_trees : Nat) (q_images : Nat) (q_search : Nat) (q_stories : Nat) (q_signs : Nat) (q_calendar : Nat) (q_draft : Nat) (q_found_books : Nat) (q_found_sheets : Nat) (q_found_weights : Nat) (s_yearOfNow : Int32) (s_found_dugMarshes : Int32) (s_found_kept : Int32) (s_found_known_count : Int32) (s_found_known_years : Nat → Int32) (o_r : Int32) (hf : f_X11_next x1 x2 s_yearOfNow s_found_known_count s_found_known_years = some o_r) : CT l yX11_next wsX11_next rm_X11_next D cA [.ref a0, .int x1, .int x2] (w_X11_next a0 q_found q_found_known q_found_known_years q_text q_ocean q_trees q_images q_search q_stories q_signs q_calendar q_draft q_found_books q_found_sheets q_found_weights cA s_yearOfNow s_found_dugMarshes s_found_kept s_found_known_count s_found_known_years) (w_X11_next a0 q_found q_found_known q_found_known_years q_text q_ocean q_trees q_images q_search q_stories q_signs q_calendar q_draft q_found_books q_found_sheets q_found_weights cA s_yearOfNow s_found_dugMarshes s_found_kept s_found_known_count s_found_known_years) (some (.int o_r)) := by
  refine CT.ofW (cc := cX11_next) (maxL := 3) (ret := (some .int)) (by decide +kernel) rfl (Nat.le_of_ble_eq_true rfl) ?_
  intro p e s m below meth c A C0 hA hP hD ls hl
  have C0 : MX p s m [.ref a0, .int x1, .int x2].toArray meth c cX11_next 3 wsX11_next RX11 (some .int) D cA := C0
  have hl : lv_has ls 3 [(0, .ref a0), (1, .int x1), (2, .int x2)] := hl
  obtain ⟨hx, hb, hml, hown, hts, hr, hlocks, hX⟩ := id C0
  have hK := hX.1
  have hN := hX.2
  have hS : va_S A s.heap s.heap [] := va_S.rf
  unfold f_X11_next at hf
  refine lv_iload_n hx hb dX11_next_0 rfl (lv_at hl 1 rfl) ?_
  refine lv_iconst (v := (0 : Int32)) hx hb dX11_next_1 (by decide) ?_
  refine lv_sipush (v := (9999 : Int32)) hx hb dX11_next_2 (by decide) ?_
  obtain ⟨r_1, hc_2, hf⟩ := pcl_e hf
  refine m_callS2 (As := [.int x1, .int (0 : Int32), .int (9999 : Int32)]) (rest := []) ⟨hx, hb, hml, hown, hts⟩ hX (ct_X11_within l D cA x1 (0 : Int32) (9999 : Int32) r_1 hc_2) (va_cwS 3 hts gX11_next_X11_within rfl rfl rfl (by decide +kernel) ⟨Nat.le_of_ble_eq_true rfl, Nat.le_of_ble_eq_true rfl⟩) hP hD hS hA [] [0, 1, 2, 3] 4 (by decide) rfl rfl (WS' := (w_X11_next a0 q_found q_found_known q_found_known_years q_text q_ocean q_trees q_images q_search q_stories q_signs q_calendar q_draft q_found_books q_found_sheets q_found_weights cA s_yearOfNow s_found_dugMarshes s_found_kept s_found_known_count s_found_known_years)) (WR := [(a0, .inr (11, [.ref q_text, .ref q_ocean, .ref q_trees, .ref q_found, .ref q_images, .ref q_search, .ref q_stories, .ref q_signs, .ref q_calendar, .ref q_draft, .int s_yearOfNow])), (q_found, .inr (2, [.ref q_found_books, .ref q_found_sheets, .ref q_found_known, .ref q_found_weights, .int s_found_dugMarshes, .int s_found_kept])), (q_found_known, .inr (3, [.ref q_found_known_years, .int s_found_known_count])), (q_found_known_years, .inl (cA 1, 16, .inl s_found_known_years))]) rfl rfl rfl rfl (by decide) (by decide) rfl hl.1 rfl (st' := [.int r_1]) rfl (Nat.le_of_ble_eq_true rfl) ⟨Nat.zero_le _, Nat.zero_le _⟩ dX11_next_5 (fun H locs hP hD hS => ?_)
  refine lv_if_eq (tgt := 18) hx hb dX11_next_8 (by decide) (fun c_3 => ?_) (fun c_3 => ?_)
  · have hf := pbr_t c_3 hf
    refine lv_ldc (v := (-1000000 : Int32)) hx hb hown (hts _ hw_X11_next_c163) dX11_next_18 ?_
    obtain rfl := pe1 hf
    exact m_iret hx hb hr hlocks hP hS dX11_next_20
  have hf := pbr_f c_3 hf
  refine lv_iload_n hx hb dX11_next_11 rfl (lv_at hl 2 rfl) ?_
  obtain ⟨r_4, hc_5, hf⟩ := pcl_e hf
  refine m_callS2 (As := [.int x2]) (rest := []) ⟨hx, hb, hml, hown, hts⟩ hX (ct_X11_isBit l D cA x2 r_4 hc_5) (va_cwS 1 hts gX11_next_X11_isBit rfl rfl rfl (by decide +kernel) ⟨Nat.le_of_ble_eq_true rfl, Nat.le_of_ble_eq_true rfl⟩) hP hD hS hA [] [0, 1, 2, 3] 4 (by decide) rfl rfl (WS' := (w_X11_next a0 q_found q_found_known q_found_known_years q_text q_ocean q_trees q_images q_search q_stories q_signs q_calendar q_draft q_found_books q_found_sheets q_found_weights cA s_yearOfNow s_found_dugMarshes s_found_kept s_found_known_count s_found_known_years)) (WR := [(a0, .inr (11, [.ref q_text, .ref q_ocean, .ref q_trees, .ref q_found, .ref q_images, .ref q_search, .ref q_stories, .ref q_signs, .ref q_calendar, .ref q_draft, .int s_yearOfNow])), (q_found, .inr (2, [.ref q_found_books, .ref q_found_sheets, .ref q_found_known, .ref q_found_weights, .int s_found_dugMarshes, .int s_found_kept])), (q_found_known, .inr (3, [.ref q_found_known_years, .int s_found_known_count])), (q_found_known_years, .inl (cA 1, 16, .inl s_found_known_years))]) rfl rfl rfl rfl (by decide) (by decide) rfl hl.1 rfl (st' := [.int r_4]) rfl (Nat.le_of_ble_eq_true rfl) ⟨Nat.zero_le _, Nat.zero_le _⟩ dX11_next_12 (fun H locs hP hD hS => ?_)
  refine lv_if_ne (tgt := 21) hx hb dX11_next_15 (by decide) (fun c_6 => ?_) (fun c_6 => ?_)
  · have hf := pbr_f c_6 hf
    refine lv_aload_n hx hb dX11_next_21 rfl (lv_at hl 0 rfl) ?_
    refine va_get (D := D) (ci := 11) (v := .ref q_found) (C := RX11) (T := TX11) (N := 11) hx hb hts hn_X11_next_X11 hown hK hP 0 rfl rfl 3 (by decide) (hts _ hw_X11_next_f33) (fun _ h9 => h9) rfl dX11_next_22 ?_
    refine va_getN (D := D) (ci := 2) (v := .ref q_found_known) (C := RX2) (T := TX2) (N := 6) hx hb hts hn_X11_next_X2 hown hK hP 1 rfl rfl 2 (by decide) (va_Nw.use rfl (hN _ nw_X11_290)) (fun _ h9 => h9) rfl dX11_next_25 ?_
    refine lv_aload_n hx hb dX11_next_28 rfl (lv_at hl 0 rfl) ?_
    refine va_get (D := D) (ci := 11) (v := .int s_yearOfNow) (C := RX11) (T := TX11) (N := 11) hx hb hts hn_X11_next_X11 hown hK hP 0 rfl rfl 10 (by decide) (hts _ hw_X11_next_f80) (fun _ h9 => h9) rfl dX11_next_29 ?_
    refine lv_iload_n hx hb dX11_next_32 rfl (lv_at hl 1 rfl) ?_
    refine lv_iload_n hx hb dX11_next_33 rfl (lv_at hl 2 rfl) ?_
    obtain ⟨r_7, hc_8, hf⟩ := pcl_e hf
    refine m_callV2 (As := [.int s_yearOfNow, .int x1, .int x2]) (rest := []) ⟨hx, hb, hml, hown, hts⟩ hX (ct_X3_outlook l D cA s_yearOfNow x1 x2 q_found_known q_found_known_years s_found_known_count s_found_known_years r_7 hc_8) (cwV 3 hts gX11_next_X3_outlook rfl rfl rfl (by decide +kernel) ⟨Nat.le_of_ble_eq_true rfl, Nat.le_of_ble_eq_true rfl⟩) hP hD hS hA [2, 3] [0, 1] 4 (by decide) rfl rfl (WS' := (w_X11_next a0 q_found q_found_known q_found_known_years q_text q_ocean q_trees q_images q_search q_stories q_signs q_calendar q_draft q_found_books q_found_sheets q_found_weights cA s_yearOfNow s_found_dugMarshes s_found_kept s_found_known_count s_found_known_years)) (WR := [(a0, .inr (11, [.ref q_text, .ref q_ocean, .ref q_trees, .ref q_found, .ref q_images, .ref q_search, .ref q_stories, .ref q_signs, .ref q_calendar, .ref q_draft, .int s_yearOfNow])), (q_found, .inr (2, [.ref q_found_books, .ref q_found_sheets, .ref q_found_known, .ref q_found_weights, .int s_found_dugMarshes, .int s_found_kept]))]) rfl rfl rfl rfl (by decide) (by decide) 2 3 rfl rfl rfl hl.1 rfl (st' := [.int r_7]) rfl (Nat.le_of_ble_eq_true rfl) ⟨Nat.zero_le _, Nat.zero_le _⟩ dX11_next_34 (fun H locs hP hD hS => ?_)
    obtain rfl := pe1 hf
    exact m_iret hx hb hr hlocks hP hS dX11_next_37
  have hf := pbr_t c_6 hf
  refine lv_ldc (v := (-1000000 : Int32)) hx hb hown (hts _ hw_X11_next_c163) dX11_next_18 ?_
  obtain rfl := pe1 hf
  exact m_iret hx hb hr hlocks hP hS dX11_next_20

/-! ===== OrphanWave.even()I ===== -/
abbrev rm_X11_even : Room := { frames := 2, cells := 0, slots := 0, locals := 36 }
abbrev w_X11_even (a0 : Nat) (q_found : Nat) (q_found_known : Nat) (q_found_known_years : Nat) (q_text : Nat) (q_ocean : Nat) (q_trees : Nat) (q_images : Nat) (q_search : Nat) (q_stories : Nat) (q_signs : Nat) (q_calendar : Nat) (q_draft : Nat) (q_found_books : Nat) (q_found_sheets : Nat) (q_found_weights : Nat) (cA : Nat → ClassId) (s_yearOfNow : Int32) (s_found_dugMarshes : Int32) (s_found_kept : Int32) (s_found_known_count : Int32) (s_found_known_years : Nat → Int32) : va_W := [(a0, .inr (11, [.ref q_text, .ref q_ocean, .ref q_trees, .ref q_found, .ref q_images, .ref q_search, .ref q_stories, .ref q_signs, .ref q_calendar, .ref q_draft, .int s_yearOfNow])), (q_found, .inr (2, [.ref q_found_books, .ref q_found_sheets, .ref q_found_known, .ref q_found_weights, .int s_found_dugMarshes, .int s_found_kept])), (q_found_known, .inr (3, [.ref q_found_known_years, .int s_found_known_count])), (q_found_known_years, .inl (cA 1, 16, .inl s_found_known_years))]
theorem hn_X11_even_X11 : ∀ w ∈ u_ws RX11 TX11 11, w ∈ wsX11_even := by decide +kernel
theorem hn_X11_even_X2 : ∀ w ∈ u_ws RX2 TX2 6, w ∈ wsX11_even := by decide +kernel
theorem hw_X11_even_f33 : Cond.fieldLink RX11 33 "OrphanWave" "found" "LOrphanWave$Findings;" ∈ wsX11_even := by decide +kernel

def f_X11_even (s_found_known_count : Int32) (s_found_known_years : Nat → Int32) : Option ((Int32)) :=
  pcl (f_X3_evenness s_found_known_count s_found_known_years) (fun r_1 => (
  some (r_1)))

set_option maxRecDepth 100000 in
set_option maxHeartbeats 4000000 in
theorem ct_X11_even (l : Launch) (D : va_G) (cA : Nat → ClassId) (a0 : Nat) (q_found : Nat) (q_found_known : Nat) (q_found_known_years : Nat) (q_text : Nat) (q_ocean : Nat) (q_trees : Nat) (q_images : Nat) (q_search : Nat) (q_stories : Nat) (q_signs : Nat) (q_calendar : Nat) (q_draft : Nat) (q_found_books : Nat) (q_found_sheets : Nat) (q_found_weights : Nat) (s_yearOfNow : Int32) (s_found_dugMarshes : Int32) (s_found_kept : Int32) (s_found_known_count : Int32) (s_found_known_years : Nat → Int32) (o_r : Int32) (hf : f_X11_even s_found_known_count s_found_known_years = some o_r) : CT l yX11_even wsX11_even rm_X11_even D cA [.ref a0] (w_X11_even a0 q_found q_found_known q_found_known_years q_text q_ocean q_trees q_images q_search q_stories q_signs q_calendar q_draft q_found_books q_found_sheets q_found_weights cA s_yearOfNow s_found_dugMarshes s_found_kept s_found_known_count s_found_known_years) (w_X11_even a0 q_found q_found_known q_found_known_years q_text q_ocean q_trees q_images q_search q_stories q_signs q_calendar q_draft q_found_books q_found_sheets q_found_weights cA s_yearOfNow s_found_dugMarshes s_found_kept s_found_known_count s_found_known_years) (some (.int o_r)) := by
  refine CT.ofW (cc := cX11_even) (maxL := 1) (ret := (some .int)) (by decide +kernel) rfl (Nat.le_of_ble_eq_true rfl) ?_
  intro p e s m below meth c A C0 hA hP hD ls hl
  have C0 : MX p s m [.ref a0].toArray meth c cX11_even 1 wsX11_even RX11 (some .int) D cA := C0
  have hl : lv_has ls 1 [(0, .ref a0)] := hl
  obtain ⟨hx, hb, hml, hown, hts, hr, hlocks, hX⟩ := id C0
  have hK := hX.1
  have hN := hX.2
  have hS : va_S A s.heap s.heap [] := va_S.rf
  unfold f_X11_even at hf
  refine lv_aload_n hx hb dX11_even_0 rfl (lv_at hl 0 rfl) ?_
  refine va_get (D := D) (ci := 11) (v := .ref q_found) (C := RX11) (T := TX11) (N := 11) hx hb hts hn_X11_even_X11 hown hK hP 0 rfl rfl 3 (by decide) (hts _ hw_X11_even_f33) (fun _ h9 => h9) rfl dX11_even_1 ?_
  refine va_getN (D := D) (ci := 2) (v := .ref q_found_known) (C := RX2) (T := TX2) (N := 6) hx hb hts hn_X11_even_X2 hown hK hP 1 rfl rfl 2 (by decide) (va_Nw.use rfl (hN _ nw_X11_290)) (fun _ h9 => h9) rfl dX11_even_4 ?_
  obtain ⟨r_1, hc_2, hf⟩ := pcl_e hf
  refine m_callV2 (As := []) (rest := []) ⟨hx, hb, hml, hown, hts⟩ hX (ct_X3_evenness l D cA q_found_known q_found_known_years s_found_known_count s_found_known_years r_1 hc_2) (cwV 0 hts gX11_even_X3_evenness rfl rfl rfl (by decide +kernel) ⟨Nat.le_of_ble_eq_true rfl, Nat.le_of_ble_eq_true rfl⟩) hP hD hS hA [2, 3] [0, 1] 4 (by decide) rfl rfl (WS' := (w_X11_even a0 q_found q_found_known q_found_known_years q_text q_ocean q_trees q_images q_search q_stories q_signs q_calendar q_draft q_found_books q_found_sheets q_found_weights cA s_yearOfNow s_found_dugMarshes s_found_kept s_found_known_count s_found_known_years)) (WR := [(a0, .inr (11, [.ref q_text, .ref q_ocean, .ref q_trees, .ref q_found, .ref q_images, .ref q_search, .ref q_stories, .ref q_signs, .ref q_calendar, .ref q_draft, .int s_yearOfNow])), (q_found, .inr (2, [.ref q_found_books, .ref q_found_sheets, .ref q_found_known, .ref q_found_weights, .int s_found_dugMarshes, .int s_found_kept]))]) rfl rfl rfl rfl (by decide) (by decide) 2 3 rfl rfl rfl hl.1 rfl (st' := [.int r_1]) rfl (Nat.le_of_ble_eq_true rfl) ⟨Nat.zero_le _, Nat.zero_le _⟩ dX11_even_7 (fun H locs hP hD hS => ?_)
  obtain rfl := pe1 hf
  exact m_iret hx hb hr hlocks hP hS dX11_even_10
