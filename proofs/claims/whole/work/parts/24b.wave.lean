/-! ===== OrphanWave.time(II)I ===== -/
abbrev rm_X11_time : Room := { frames := 4, cells := 0, slots := 0, locals := 94 }
abbrev w_X11_time (a0 : Nat) (q_ocean : Nat) (q_ocean_times : Nat) (q_ocean_depths : Nat) (q_text : Nat) (q_trees : Nat) (q_found : Nat) (q_images : Nat) (q_search : Nat) (q_stories : Nat) (q_signs : Nat) (q_calendar : Nat) (q_draft : Nat) (q_ocean_figures : Nat) (cA : Nat → ClassId) (s_yearOfNow : Int32) (s_ocean_pace : Int32) (s_ocean_fade : Int32) (s_ocean_times : Nat → Int32) (s_ocean_depths : Nat → Int32) : va_W := [(a0, .inr (11, [.ref q_text, .ref q_ocean, .ref q_trees, .ref q_found, .ref q_images, .ref q_search, .ref q_stories, .ref q_signs, .ref q_calendar, .ref q_draft, .int s_yearOfNow])), (q_ocean, .inr (4, [.ref q_ocean_depths, .ref q_ocean_figures, .ref q_ocean_times, .int s_ocean_pace, .int s_ocean_fade])), (q_ocean_times, .inl (cA 1, 48, .inl s_ocean_times)), (q_ocean_depths, .inl (cA 1, 48, .inl s_ocean_depths))]
theorem hn_X11_time_X11 : ∀ w ∈ u_ws RX11 TX11 11, w ∈ wsX11_time := by decide +kernel
theorem hw_X11_time_f19 : Cond.fieldLink RX11 19 "OrphanWave" "ocean" "LOrphanWave$Ocean;" ∈ wsX11_time := by decide +kernel

def f_X11_time (x1 : Int32) (x2 : Int32) (s_ocean_pace : Int32) (s_ocean_times : Nat → Int32) (s_ocean_depths : Nat → Int32) : Option ((Int32) × (Nat → Int32)) :=
  pcl (f_X11_isCell x1) (fun r_1 => (
  pbr (r_1 = 0)
    (some ((-1 : Int32), s_ocean_times))
    (pcl (f_X11_isCell x2) (fun r_4 => (
    pbr (r_4 = 0)
      (some ((-1 : Int32), s_ocean_times))
      (pcl (f_X4_travel x1 x2 s_ocean_pace s_ocean_times s_ocean_depths) (fun (r_7, times_8) => (
      some (r_7, times_8)))))))))

set_option maxRecDepth 100000 in
set_option maxHeartbeats 4000000 in
theorem ct_X11_time (l : Launch) (D : va_G) (cA : Nat → ClassId) (x1 : Int32) (x2 : Int32) (a0 : Nat) (q_ocean : Nat) (q_ocean_times : Nat) (q_ocean_depths : Nat) (q_text : Nat) (q_trees : Nat) (q_found : Nat) (q_images : Nat) (q_search : Nat) (q_stories : Nat) (q_signs : Nat) (q_calendar : Nat) (q_draft : Nat) (q_ocean_figures : Nat) (s_yearOfNow : Int32) (s_ocean_pace : Int32) (s_ocean_fade : Int32) (s_ocean_times : Nat → Int32) (s_ocean_depths : Nat → Int32) (o_r : Int32) (o_ocean_times : Nat → Int32) (hf : f_X11_time x1 x2 s_ocean_pace s_ocean_times s_ocean_depths = some (o_r, o_ocean_times)) : CT l yX11_time wsX11_time rm_X11_time D cA [.ref a0, .int x1, .int x2] (w_X11_time a0 q_ocean q_ocean_times q_ocean_depths q_text q_trees q_found q_images q_search q_stories q_signs q_calendar q_draft q_ocean_figures cA s_yearOfNow s_ocean_pace s_ocean_fade s_ocean_times s_ocean_depths) (w_X11_time a0 q_ocean q_ocean_times q_ocean_depths q_text q_trees q_found q_images q_search q_stories q_signs q_calendar q_draft q_ocean_figures cA s_yearOfNow s_ocean_pace s_ocean_fade o_ocean_times s_ocean_depths) (some (.int o_r)) := by
  refine CT.ofW (cc := cX11_time) (maxL := 3) (ret := (some .int)) (by decide +kernel) rfl (Nat.le_of_ble_eq_true rfl) ?_
  intro p e s m below meth c A C0 hA hP hD ls hl
  have C0 : MX p s m [.ref a0, .int x1, .int x2].toArray meth c cX11_time 3 wsX11_time RX11 (some .int) D cA := C0
  have hl : lv_has ls 3 [(0, .ref a0), (1, .int x1), (2, .int x2)] := hl
  obtain ⟨hx, hb, hml, hown, hts, hr, hlocks, hX⟩ := id C0
  have hK := hX.1
  have hN := hX.2
  have hS : va_S A s.heap s.heap [] := va_S.rf
  unfold f_X11_time at hf
  refine lv_iload_n hx hb dX11_time_0 rfl (lv_at hl 1 rfl) ?_
  obtain ⟨r_1, hc_2, hf⟩ := pcl_e hf
  refine m_callS2 (As := [.int x1]) (rest := []) ⟨hx, hb, hml, hown, hts⟩ hX (ct_X11_isCell l D cA x1 r_1 hc_2) (va_cwS 1 hts gX11_time_X11_isCell rfl rfl rfl (by decide +kernel) ⟨Nat.le_of_ble_eq_true rfl, Nat.le_of_ble_eq_true rfl⟩) hP hD hS hA [] [0, 1, 2, 3] 4 (by decide) rfl rfl (WS' := (w_X11_time a0 q_ocean q_ocean_times q_ocean_depths q_text q_trees q_found q_images q_search q_stories q_signs q_calendar q_draft q_ocean_figures cA s_yearOfNow s_ocean_pace s_ocean_fade s_ocean_times s_ocean_depths)) (WR := [(a0, .inr (11, [.ref q_text, .ref q_ocean, .ref q_trees, .ref q_found, .ref q_images, .ref q_search, .ref q_stories, .ref q_signs, .ref q_calendar, .ref q_draft, .int s_yearOfNow])), (q_ocean, .inr (4, [.ref q_ocean_depths, .ref q_ocean_figures, .ref q_ocean_times, .int s_ocean_pace, .int s_ocean_fade])), (q_ocean_times, .inl (cA 1, 48, .inl s_ocean_times)), (q_ocean_depths, .inl (cA 1, 48, .inl s_ocean_depths))]) rfl rfl rfl rfl (by decide) (by decide) rfl hl.1 rfl (st' := [.int r_1]) rfl (Nat.le_of_ble_eq_true rfl) ⟨Nat.zero_le _, Nat.zero_le _⟩ dX11_time_1 (fun H locs hP hD hS => ?_)
  refine lv_if_eq (tgt := 14) hx hb dX11_time_4 (by decide) (fun c_3 => ?_) (fun c_3 => ?_)
  · have hf := pbr_t c_3 hf
    refine lv_iconst (v := (-1 : Int32)) hx hb dX11_time_14 (by decide) ?_
    obtain ⟨rfl, rfl⟩ := pe2 hf
    exact m_iret hx hb hr hlocks hP hS dX11_time_15
  have hf := pbr_f c_3 hf
  refine lv_iload_n hx hb dX11_time_7 rfl (lv_at hl 2 rfl) ?_
  obtain ⟨r_4, hc_5, hf⟩ := pcl_e hf
  refine m_callS2 (As := [.int x2]) (rest := []) ⟨hx, hb, hml, hown, hts⟩ hX (ct_X11_isCell l D cA x2 r_4 hc_5) (va_cwS 1 hts gX11_time_X11_isCell rfl rfl rfl (by decide +kernel) ⟨Nat.le_of_ble_eq_true rfl, Nat.le_of_ble_eq_true rfl⟩) hP hD hS hA [] [0, 1, 2, 3] 4 (by decide) rfl rfl (WS' := (w_X11_time a0 q_ocean q_ocean_times q_ocean_depths q_text q_trees q_found q_images q_search q_stories q_signs q_calendar q_draft q_ocean_figures cA s_yearOfNow s_ocean_pace s_ocean_fade s_ocean_times s_ocean_depths)) (WR := [(a0, .inr (11, [.ref q_text, .ref q_ocean, .ref q_trees, .ref q_found, .ref q_images, .ref q_search, .ref q_stories, .ref q_signs, .ref q_calendar, .ref q_draft, .int s_yearOfNow])), (q_ocean, .inr (4, [.ref q_ocean_depths, .ref q_ocean_figures, .ref q_ocean_times, .int s_ocean_pace, .int s_ocean_fade])), (q_ocean_times, .inl (cA 1, 48, .inl s_ocean_times)), (q_ocean_depths, .inl (cA 1, 48, .inl s_ocean_depths))]) rfl rfl rfl rfl (by decide) (by decide) rfl hl.1 rfl (st' := [.int r_4]) rfl (Nat.le_of_ble_eq_true rfl) ⟨Nat.zero_le _, Nat.zero_le _⟩ dX11_time_8 (fun H locs hP hD hS => ?_)
  refine lv_if_ne (tgt := 16) hx hb dX11_time_11 (by decide) (fun c_6 => ?_) (fun c_6 => ?_)
  · have hf := pbr_f c_6 hf
    refine lv_aload_n hx hb dX11_time_16 rfl (lv_at hl 0 rfl) ?_
    refine va_get (D := D) (ci := 11) (v := .ref q_ocean) (C := RX11) (T := TX11) (N := 11) hx hb hts hn_X11_time_X11 hown hK hP 0 rfl rfl 1 (by decide) (hts _ hw_X11_time_f19) (fun _ h9 => h9) rfl dX11_time_17 ?_
    refine lv_iload_n hx hb dX11_time_20 rfl (lv_at hl 1 rfl) ?_
    refine lv_iload_n hx hb dX11_time_21 rfl (lv_at hl 2 rfl) ?_
    obtain ⟨⟨r_7, times_8⟩, hc_9, hf⟩ := pcl_e hf
    refine m_callV2 (As := [.int x1, .int x2]) (rest := []) ⟨hx, hb, hml, hown, hts⟩ hX (ct_X4_travel l D cA x1 x2 q_ocean q_ocean_times q_ocean_depths q_ocean_figures s_ocean_pace s_ocean_fade s_ocean_times s_ocean_depths r_7 times_8 hc_9) (cwV 2 hts gX11_time_X4_travel rfl rfl rfl (by decide +kernel) ⟨Nat.le_of_ble_eq_true rfl, Nat.le_of_ble_eq_true rfl⟩) hP hD hS hA [1, 2, 3] [0] 4 (by decide) rfl rfl (WS' := (w_X11_time a0 q_ocean q_ocean_times q_ocean_depths q_text q_trees q_found q_images q_search q_stories q_signs q_calendar q_draft q_ocean_figures cA s_yearOfNow s_ocean_pace s_ocean_fade times_8 s_ocean_depths)) (WR := [(a0, .inr (11, [.ref q_text, .ref q_ocean, .ref q_trees, .ref q_found, .ref q_images, .ref q_search, .ref q_stories, .ref q_signs, .ref q_calendar, .ref q_draft, .int s_yearOfNow]))]) rfl rfl rfl rfl (by decide) (by decide) 1 4 rfl rfl rfl hl.1 rfl (st' := [.int r_7]) rfl (Nat.le_of_ble_eq_true rfl) ⟨Nat.zero_le _, Nat.zero_le _⟩ dX11_time_22 (fun H locs hP hD hS => ?_)
    obtain ⟨rfl, rfl⟩ := pe2 hf
    exact m_iret hx hb hr hlocks hP hS dX11_time_25
  have hf := pbr_t c_6 hf
  refine lv_iconst (v := (-1 : Int32)) hx hb dX11_time_14 (by decide) ?_
  obtain ⟨rfl, rfl⟩ := pe2 hf
  exact m_iret hx hb hr hlocks hP hS dX11_time_15

/-! ===== OrphanWave.height(III)I ===== -/
abbrev rm_X11_height : Room := { frames := 4, cells := 0, slots := 0, locals := 94 }
abbrev w_X11_height (a0 : Nat) (q_ocean : Nat) (q_ocean_times : Nat) (q_ocean_depths : Nat) (q_text : Nat) (q_trees : Nat) (q_found : Nat) (q_images : Nat) (q_search : Nat) (q_stories : Nat) (q_signs : Nat) (q_calendar : Nat) (q_draft : Nat) (q_ocean_figures : Nat) (cA : Nat → ClassId) (s_yearOfNow : Int32) (s_ocean_pace : Int32) (s_ocean_fade : Int32) (s_ocean_times : Nat → Int32) (s_ocean_depths : Nat → Int32) : va_W := [(a0, .inr (11, [.ref q_text, .ref q_ocean, .ref q_trees, .ref q_found, .ref q_images, .ref q_search, .ref q_stories, .ref q_signs, .ref q_calendar, .ref q_draft, .int s_yearOfNow])), (q_ocean, .inr (4, [.ref q_ocean_depths, .ref q_ocean_figures, .ref q_ocean_times, .int s_ocean_pace, .int s_ocean_fade])), (q_ocean_times, .inl (cA 1, 48, .inl s_ocean_times)), (q_ocean_depths, .inl (cA 1, 48, .inl s_ocean_depths))]
theorem hn_X11_height_X11 : ∀ w ∈ u_ws RX11 TX11 11, w ∈ wsX11_height := by decide +kernel
theorem hw_X11_height_f19 : Cond.fieldLink RX11 19 "OrphanWave" "ocean" "LOrphanWave$Ocean;" ∈ wsX11_height := by decide +kernel

def f_X11_height (x1 : Int32) (x2 : Int32) (x3 : Int32) (s_ocean_pace : Int32) (s_ocean_fade : Int32) (s_ocean_times : Nat → Int32) (s_ocean_depths : Nat → Int32) : Option ((Int32) × (Nat → Int32)) :=
  pcl (f_X11_isCell x1) (fun r_1 => (
  pbr (r_1 = 0)
    (some ((-1 : Int32), s_ocean_times))
    (pcl (f_X11_isSize x2) (fun r_4 => (
    pbr (r_4 = 0)
      (some ((-1 : Int32), s_ocean_times))
      (pcl (f_X11_isCell x3) (fun r_7 => (
      pbr (r_7 = 0)
        (some ((-1 : Int32), s_ocean_times))
        (pcl (f_X4_travel x1 x3 s_ocean_pace s_ocean_times s_ocean_depths) (fun (r_10, times_11) => (
        pcl (f_X4_swell r_10 x2 x3 s_ocean_fade s_ocean_depths) (fun r_13 => (
        some (r_13, times_11))))))))))))))

set_option maxRecDepth 100000 in
set_option maxHeartbeats 4000000 in
theorem ct_X11_height (l : Launch) (D : va_G) (cA : Nat → ClassId) (x1 : Int32) (x2 : Int32) (x3 : Int32) (a0 : Nat) (q_ocean : Nat) (q_ocean_times : Nat) (q_ocean_depths : Nat) (q_text : Nat) (q_trees : Nat) (q_found : Nat) (q_images : Nat) (q_search : Nat) (q_stories : Nat) (q_signs : Nat) (q_calendar : Nat) (q_draft : Nat) (q_ocean_figures : Nat) (s_yearOfNow : Int32) (s_ocean_pace : Int32) (s_ocean_fade : Int32) (s_ocean_times : Nat → Int32) (s_ocean_depths : Nat → Int32) (o_r : Int32) (o_ocean_times : Nat → Int32) (hf : f_X11_height x1 x2 x3 s_ocean_pace s_ocean_fade s_ocean_times s_ocean_depths = some (o_r, o_ocean_times)) : CT l yX11_height wsX11_height rm_X11_height D cA [.ref a0, .int x1, .int x2, .int x3] (w_X11_height a0 q_ocean q_ocean_times q_ocean_depths q_text q_trees q_found q_images q_search q_stories q_signs q_calendar q_draft q_ocean_figures cA s_yearOfNow s_ocean_pace s_ocean_fade s_ocean_times s_ocean_depths) (w_X11_height a0 q_ocean q_ocean_times q_ocean_depths q_text q_trees q_found q_images q_search q_stories q_signs q_calendar q_draft q_ocean_figures cA s_yearOfNow s_ocean_pace s_ocean_fade o_ocean_times s_ocean_depths) (some (.int o_r)) := by
  refine CT.ofW (cc := cX11_height) (maxL := 4) (ret := (some .int)) (by decide +kernel) rfl (Nat.le_of_ble_eq_true rfl) ?_
  intro p e s m below meth c A C0 hA hP hD ls hl
  have C0 : MX p s m [.ref a0, .int x1, .int x2, .int x3].toArray meth c cX11_height 4 wsX11_height RX11 (some .int) D cA := C0
  have hl : lv_has ls 4 [(0, .ref a0), (1, .int x1), (2, .int x2), (3, .int x3)] := hl
  obtain ⟨hx, hb, hml, hown, hts, hr, hlocks, hX⟩ := id C0
  have hK := hX.1
  have hN := hX.2
  have hS : va_S A s.heap s.heap [] := va_S.rf
  unfold f_X11_height at hf
  refine lv_iload_n hx hb dX11_height_0 rfl (lv_at hl 1 rfl) ?_
  obtain ⟨r_1, hc_2, hf⟩ := pcl_e hf
  refine m_callS2 (As := [.int x1]) (rest := []) ⟨hx, hb, hml, hown, hts⟩ hX (ct_X11_isCell l D cA x1 r_1 hc_2) (va_cwS 1 hts gX11_height_X11_isCell rfl rfl rfl (by decide +kernel) ⟨Nat.le_of_ble_eq_true rfl, Nat.le_of_ble_eq_true rfl⟩) hP hD hS hA [] [0, 1, 2, 3] 4 (by decide) rfl rfl (WS' := (w_X11_height a0 q_ocean q_ocean_times q_ocean_depths q_text q_trees q_found q_images q_search q_stories q_signs q_calendar q_draft q_ocean_figures cA s_yearOfNow s_ocean_pace s_ocean_fade s_ocean_times s_ocean_depths)) (WR := [(a0, .inr (11, [.ref q_text, .ref q_ocean, .ref q_trees, .ref q_found, .ref q_images, .ref q_search, .ref q_stories, .ref q_signs, .ref q_calendar, .ref q_draft, .int s_yearOfNow])), (q_ocean, .inr (4, [.ref q_ocean_depths, .ref q_ocean_figures, .ref q_ocean_times, .int s_ocean_pace, .int s_ocean_fade])), (q_ocean_times, .inl (cA 1, 48, .inl s_ocean_times)), (q_ocean_depths, .inl (cA 1, 48, .inl s_ocean_depths))]) rfl rfl rfl rfl (by decide) (by decide) rfl hl.1 rfl (st' := [.int r_1]) rfl (Nat.le_of_ble_eq_true rfl) ⟨Nat.zero_le _, Nat.zero_le _⟩ dX11_height_1 (fun H locs hP hD hS => ?_)
  refine lv_if_eq (tgt := 21) hx hb dX11_height_4 (by decide) (fun c_3 => ?_) (fun c_3 => ?_)
  · have hf := pbr_t c_3 hf
    refine lv_iconst (v := (-1 : Int32)) hx hb dX11_height_21 (by decide) ?_
    obtain ⟨rfl, rfl⟩ := pe2 hf
    exact m_iret hx hb hr hlocks hP hS dX11_height_22
  have hf := pbr_f c_3 hf
  refine lv_iload_n hx hb dX11_height_7 rfl (lv_at hl 2 rfl) ?_
  obtain ⟨r_4, hc_5, hf⟩ := pcl_e hf
  refine m_callS2 (As := [.int x2]) (rest := []) ⟨hx, hb, hml, hown, hts⟩ hX (ct_X11_isSize l D cA x2 r_4 hc_5) (va_cwS 1 hts gX11_height_X11_isSize rfl rfl rfl (by decide +kernel) ⟨Nat.le_of_ble_eq_true rfl, Nat.le_of_ble_eq_true rfl⟩) hP hD hS hA [] [0, 1, 2, 3] 4 (by decide) rfl rfl (WS' := (w_X11_height a0 q_ocean q_ocean_times q_ocean_depths q_text q_trees q_found q_images q_search q_stories q_signs q_calendar q_draft q_ocean_figures cA s_yearOfNow s_ocean_pace s_ocean_fade s_ocean_times s_ocean_depths)) (WR := [(a0, .inr (11, [.ref q_text, .ref q_ocean, .ref q_trees, .ref q_found, .ref q_images, .ref q_search, .ref q_stories, .ref q_signs, .ref q_calendar, .ref q_draft, .int s_yearOfNow])), (q_ocean, .inr (4, [.ref q_ocean_depths, .ref q_ocean_figures, .ref q_ocean_times, .int s_ocean_pace, .int s_ocean_fade])), (q_ocean_times, .inl (cA 1, 48, .inl s_ocean_times)), (q_ocean_depths, .inl (cA 1, 48, .inl s_ocean_depths))]) rfl rfl rfl rfl (by decide) (by decide) rfl hl.1 rfl (st' := [.int r_4]) rfl (Nat.le_of_ble_eq_true rfl) ⟨Nat.zero_le _, Nat.zero_le _⟩ dX11_height_8 (fun H locs hP hD hS => ?_)
  refine lv_if_eq (tgt := 21) hx hb dX11_height_11 (by decide) (fun c_6 => ?_) (fun c_6 => ?_)
  · have hf := pbr_t c_6 hf
    refine lv_iconst (v := (-1 : Int32)) hx hb dX11_height_21 (by decide) ?_
    obtain ⟨rfl, rfl⟩ := pe2 hf
    exact m_iret hx hb hr hlocks hP hS dX11_height_22
  have hf := pbr_f c_6 hf
  refine lv_iload_n hx hb dX11_height_14 rfl (lv_at hl 3 rfl) ?_
  obtain ⟨r_7, hc_8, hf⟩ := pcl_e hf
  refine m_callS2 (As := [.int x3]) (rest := []) ⟨hx, hb, hml, hown, hts⟩ hX (ct_X11_isCell l D cA x3 r_7 hc_8) (va_cwS 1 hts gX11_height_X11_isCell rfl rfl rfl (by decide +kernel) ⟨Nat.le_of_ble_eq_true rfl, Nat.le_of_ble_eq_true rfl⟩) hP hD hS hA [] [0, 1, 2, 3] 4 (by decide) rfl rfl (WS' := (w_X11_height a0 q_ocean q_ocean_times q_ocean_depths q_text q_trees q_found q_images q_search q_stories q_signs q_calendar q_draft q_ocean_figures cA s_yearOfNow s_ocean_pace s_ocean_fade s_ocean_times s_ocean_depths)) (WR := [(a0, .inr (11, [.ref q_text, .ref q_ocean, .ref q_trees, .ref q_found, .ref q_images, .ref q_search, .ref q_stories, .ref q_signs, .ref q_calendar, .ref q_draft, .int s_yearOfNow])), (q_ocean, .inr (4, [.ref q_ocean_depths, .ref q_ocean_figures, .ref q_ocean_times, .int s_ocean_pace, .int s_ocean_fade])), (q_ocean_times, .inl (cA 1, 48, .inl s_ocean_times)), (q_ocean_depths, .inl (cA 1, 48, .inl s_ocean_depths))]) rfl rfl rfl rfl (by decide) (by decide) rfl hl.1 rfl (st' := [.int r_7]) rfl (Nat.le_of_ble_eq_true rfl) ⟨Nat.zero_le _, Nat.zero_le _⟩ dX11_height_15 (fun H locs hP hD hS => ?_)
  refine lv_if_ne (tgt := 23) hx hb dX11_height_18 (by decide) (fun c_9 => ?_) (fun c_9 => ?_)
  · have hf := pbr_f c_9 hf
    refine lv_aload_n hx hb dX11_height_23 rfl (lv_at hl 0 rfl) ?_
    refine va_get (D := D) (ci := 11) (v := .ref q_ocean) (C := RX11) (T := TX11) (N := 11) hx hb hts hn_X11_height_X11 hown hK hP 0 rfl rfl 1 (by decide) (hts _ hw_X11_height_f19) (fun _ h9 => h9) rfl dX11_height_24 ?_
    refine lv_aload_n hx hb dX11_height_27 rfl (lv_at hl 0 rfl) ?_
    refine va_get (D := D) (ci := 11) (v := .ref q_ocean) (C := RX11) (T := TX11) (N := 11) hx hb hts hn_X11_height_X11 hown hK hP 0 rfl rfl 1 (by decide) (hts _ hw_X11_height_f19) (fun _ h9 => h9) rfl dX11_height_28 ?_
    refine lv_iload_n hx hb dX11_height_31 rfl (lv_at hl 1 rfl) ?_
    refine lv_iload_n hx hb dX11_height_32 rfl (lv_at hl 3 rfl) ?_
    obtain ⟨⟨r_10, times_11⟩, hc_12, hf⟩ := pcl_e hf
    refine m_callV2 (As := [.int x1, .int x3]) (rest := [.ref q_ocean]) ⟨hx, hb, hml, hown, hts⟩ hX (ct_X4_travel l D cA x1 x3 q_ocean q_ocean_times q_ocean_depths q_ocean_figures s_ocean_pace s_ocean_fade s_ocean_times s_ocean_depths r_10 times_11 hc_12) (cwV 2 hts gX11_height_X4_travel rfl rfl rfl (by decide +kernel) ⟨Nat.le_of_ble_eq_true rfl, Nat.le_of_ble_eq_true rfl⟩) hP hD hS hA [1, 2, 3] [0] 4 (by decide) rfl rfl (WS' := (w_X11_height a0 q_ocean q_ocean_times q_ocean_depths q_text q_trees q_found q_images q_search q_stories q_signs q_calendar q_draft q_ocean_figures cA s_yearOfNow s_ocean_pace s_ocean_fade times_11 s_ocean_depths)) (WR := [(a0, .inr (11, [.ref q_text, .ref q_ocean, .ref q_trees, .ref q_found, .ref q_images, .ref q_search, .ref q_stories, .ref q_signs, .ref q_calendar, .ref q_draft, .int s_yearOfNow]))]) rfl rfl rfl rfl (by decide) (by decide) 1 4 rfl rfl rfl hl.1 rfl (st' := [.int r_10, .ref q_ocean]) rfl (Nat.le_of_ble_eq_true rfl) ⟨Nat.zero_le _, Nat.zero_le _⟩ dX11_height_33 (fun H locs hP hD hS => ?_)
    refine lv_iload_n hx hb dX11_height_36 rfl (lv_at hl 2 rfl) ?_
    refine lv_iload_n hx hb dX11_height_37 rfl (lv_at hl 3 rfl) ?_
    obtain ⟨r_13, hc_14, hf⟩ := pcl_e hf
    refine m_callV2 (As := [.int r_10, .int x2, .int x3]) (rest := []) ⟨hx, hb, hml, hown, hts⟩ hX (ct_X4_swell l D cA r_10 x2 x3 q_ocean q_ocean_depths q_ocean_figures q_ocean_times s_ocean_pace s_ocean_fade s_ocean_depths r_13 hc_14) (cwV 3 hts gX11_height_X4_swell rfl rfl rfl (by decide +kernel) ⟨Nat.le_of_ble_eq_true rfl, Nat.le_of_ble_eq_true rfl⟩) hP hD hS hA [1, 3] [0, 2] 4 (by decide) rfl rfl (WS' := (w_X11_height a0 q_ocean q_ocean_times q_ocean_depths q_text q_trees q_found q_images q_search q_stories q_signs q_calendar q_draft q_ocean_figures cA s_yearOfNow s_ocean_pace s_ocean_fade times_11 s_ocean_depths)) (WR := [(a0, .inr (11, [.ref q_text, .ref q_ocean, .ref q_trees, .ref q_found, .ref q_images, .ref q_search, .ref q_stories, .ref q_signs, .ref q_calendar, .ref q_draft, .int s_yearOfNow])), (q_ocean_times, .inl (cA 1, 48, .inl times_11))]) rfl rfl rfl rfl (by decide) (by decide) 1 4 rfl rfl rfl hl.1 rfl (st' := [.int r_13]) rfl (Nat.le_of_ble_eq_true rfl) ⟨Nat.zero_le _, Nat.zero_le _⟩ dX11_height_38 (fun H locs hP hD hS => ?_)
    obtain ⟨rfl, rfl⟩ := pe2 hf
    exact m_iret hx hb hr hlocks hP hS dX11_height_41
  have hf := pbr_t c_9 hf
  refine lv_iconst (v := (-1 : Int32)) hx hb dX11_height_21 (by decide) ?_
  obtain ⟨rfl, rfl⟩ := pe2 hf
  exact m_iret hx hb hr hlocks hP hS dX11_height_22

/-! ===== OrphanWave.book(IIIII)I ===== -/
abbrev rm_X11_book : Room := { frames := 3, cells := 0, slots := 0, locals := 63 }
abbrev w_X11_book (a0 : Nat) (q_ocean : Nat) (q_ocean_depths : Nat) (q_found : Nat) (q_found_books : Nat) (q_found_books_cells : Nat) (q_found_books_froms : Nat) (q_found_books_tos : Nat) (q_found_books_lows : Nat) (q_found_books_highs : Nat) (q_text : Nat) (q_trees : Nat) (q_images : Nat) (q_search : Nat) (q_stories : Nat) (q_signs : Nat) (q_calendar : Nat) (q_draft : Nat) (q_ocean_figures : Nat) (q_ocean_times : Nat) (q_found_sheets : Nat) (q_found_known : Nat) (q_found_weights : Nat) (cA : Nat → ClassId) (s_yearOfNow : Int32) (s_ocean_pace : Int32) (s_ocean_fade : Int32) (s_ocean_depths : Nat → Int32) (s_found_dugMarshes : Int32) (s_found_kept : Int32) (s_found_books_count : Int32) (s_found_books_cells : Nat → Int32) (s_found_books_froms : Nat → Int32) (s_found_books_tos : Nat → Int32) (s_found_books_lows : Nat → Int32) (s_found_books_highs : Nat → Int32) : va_W := [(a0, .inr (11, [.ref q_text, .ref q_ocean, .ref q_trees, .ref q_found, .ref q_images, .ref q_search, .ref q_stories, .ref q_signs, .ref q_calendar, .ref q_draft, .int s_yearOfNow])), (q_ocean, .inr (4, [.ref q_ocean_depths, .ref q_ocean_figures, .ref q_ocean_times, .int s_ocean_pace, .int s_ocean_fade])), (q_ocean_depths, .inl (cA 1, 48, .inl s_ocean_depths)), (q_found, .inr (2, [.ref q_found_books, .ref q_found_sheets, .ref q_found_known, .ref q_found_weights, .int s_found_dugMarshes, .int s_found_kept])), (q_found_books, .inr (0, [.ref q_found_books_cells, .ref q_found_books_froms, .ref q_found_books_tos, .ref q_found_books_lows, .ref q_found_books_highs, .int s_found_books_count])), (q_found_books_cells, .inl (cA 1, 6, .inl s_found_books_cells)), (q_found_books_froms, .inl (cA 1, 6, .inl s_found_books_froms)), (q_found_books_tos, .inl (cA 1, 6, .inl s_found_books_tos)), (q_found_books_lows, .inl (cA 1, 6, .inl s_found_books_lows)), (q_found_books_highs, .inl (cA 1, 6, .inl s_found_books_highs))]
theorem hn_X11_book_X11 : ∀ w ∈ u_ws RX11 TX11 11, w ∈ wsX11_book := by decide +kernel
theorem hn_X11_book_X2 : ∀ w ∈ u_ws RX2 TX2 6, w ∈ wsX11_book := by decide +kernel
theorem hn_X11_book_X0 : ∀ w ∈ u_ws RX0 TX0 6, w ∈ wsX11_book := by decide +kernel
theorem hw_X11_book_f19 : Cond.fieldLink RX11 19 "OrphanWave" "ocean" "LOrphanWave$Ocean;" ∈ wsX11_book := by decide +kernel
theorem hw_X11_book_f33 : Cond.fieldLink RX11 33 "OrphanWave" "found" "LOrphanWave$Findings;" ∈ wsX11_book := by decide +kernel

def f_X11_book (x1 : Int32) (x2 : Int32) (x3 : Int32) (x4 : Int32) (x5 : Int32) (s_ocean_depths : Nat → Int32) (s_found_books_count : Int32) (s_found_books_cells : Nat → Int32) (s_found_books_froms : Nat → Int32) (s_found_books_tos : Nat → Int32) (s_found_books_lows : Nat → Int32) (s_found_books_highs : Nat → Int32) : Option ((Int32) × (Int32) × (Nat → Int32) × (Nat → Int32) × (Nat → Int32) × (Nat → Int32) × (Nat → Int32)) :=
  pcl (f_X4_isSea x1 s_ocean_depths) (fun r_1 => (
  pbr (r_1 = 0)
    (some ((-1 : Int32), s_found_books_count, s_found_books_cells, s_found_books_froms, s_found_books_tos, s_found_books_lows, s_found_books_highs))
    (pcl (f_X11_isSpan x2 x3 (-9999 : Int32) (9999 : Int32)) (fun r_4 => (
    pbr (r_4 = 0)
      (some ((-1 : Int32), s_found_books_count, s_found_books_cells, s_found_books_froms, s_found_books_tos, s_found_books_lows, s_found_books_highs))
      (pcl (f_X11_isSpan x4 x5 (0 : Int32) (999 : Int32)) (fun r_7 => (
      pbr (r_7 = 0)
        (some ((-1 : Int32), s_found_books_count, s_found_books_cells, s_found_books_froms, s_found_books_tos, s_found_books_lows, s_found_books_highs))
        (pbr (s_found_books_count < (6 : Int32))
          (pcl (f_X0_add x1 x2 x3 x4 x5 s_found_books_count s_found_books_cells s_found_books_froms s_found_books_tos s_found_books_lows s_found_books_highs) (fun (r_11, count_12, cells_13, froms_14, tos_15, lows_16, highs_17) => (
          some (r_11, count_12, cells_13, froms_14, tos_15, lows_16, highs_17))))
          (some ((-3 : Int32), s_found_books_count, s_found_books_cells, s_found_books_froms, s_found_books_tos, s_found_books_lows, s_found_books_highs)))))))))))

set_option maxRecDepth 100000 in
set_option maxHeartbeats 4000000 in
theorem ct_X11_book (l : Launch) (D : va_G) (cA : Nat → ClassId) (x1 : Int32) (x2 : Int32) (x3 : Int32) (x4 : Int32) (x5 : Int32) (a0 : Nat) (q_ocean : Nat) (q_ocean_depths : Nat) (q_found : Nat) (q_found_books : Nat) (q_found_books_cells : Nat) (q_found_books_froms : Nat) (q_found_books_tos : Nat) (q_found_books_lows : Nat) (q_found_books_highs : Nat) (q_text : Nat) (q_trees : Nat) (q_images : Nat) (q_search : Nat) (q_stories : Nat) (q_signs : Nat) (q_calendar : Nat) (q_draft : Nat) (q_ocean_figures : Nat) (q_ocean_times : Nat) (q_found_sheets : Nat) (q_found_known : Nat) (q_found_weights : Nat) (s_yearOfNow : Int32) (s_ocean_pace : Int32) (s_ocean_fade : Int32) (s_ocean_depths : Nat → Int32) (s_found_dugMarshes : Int32) (s_found_kept : Int32) (s_found_books_count : Int32) (s_found_books_cells : Nat → Int32) (s_found_books_froms : Nat → Int32) (s_found_books_tos : Nat → Int32) (s_found_books_lows : Nat → Int32) (s_found_books_highs : Nat → Int32) (o_r : Int32) (o_found_books_count : Int32) (o_found_books_cells : Nat → Int32) (o_found_books_froms : Nat → Int32) (o_found_books_tos : Nat → Int32) (o_found_books_lows : Nat → Int32) (o_found_books_highs : Nat → Int32) (hf : f_X11_book x1 x2 x3 x4 x5 s_ocean_depths s_found_books_count s_found_books_cells s_found_books_froms s_found_books_tos s_found_books_lows s_found_books_highs = some (o_r, o_found_books_count, o_found_books_cells, o_found_books_froms, o_found_books_tos, o_found_books_lows, o_found_books_highs)) : CT l yX11_book wsX11_book rm_X11_book D cA [.ref a0, .int x1, .int x2, .int x3, .int x4, .int x5] (w_X11_book a0 q_ocean q_ocean_depths q_found q_found_books q_found_books_cells q_found_books_froms q_found_books_tos q_found_books_lows q_found_books_highs q_text q_trees q_images q_search q_stories q_signs q_calendar q_draft q_ocean_figures q_ocean_times q_found_sheets q_found_known q_found_weights cA s_yearOfNow s_ocean_pace s_ocean_fade s_ocean_depths s_found_dugMarshes s_found_kept s_found_books_count s_found_books_cells s_found_books_froms s_found_books_tos s_found_books_lows s_found_books_highs) (w_X11_book a0 q_ocean q_ocean_depths q_found q_found_books q_found_books_cells q_found_books_froms q_found_books_tos q_found_books_lows q_found_books_highs q_text q_trees q_images q_search q_stories q_signs q_calendar q_draft q_ocean_figures q_ocean_times q_found_sheets q_found_known q_found_weights cA s_yearOfNow s_ocean_pace s_ocean_fade s_ocean_depths s_found_dugMarshes s_found_kept o_found_books_count o_found_books_cells o_found_books_froms o_found_books_tos o_found_books_lows o_found_books_highs) (some (.int o_r)) := by
  refine CT.ofW (cc := cX11_book) (maxL := 6) (ret := (some .int)) (by decide +kernel) rfl (Nat.le_of_ble_eq_true rfl) ?_
  intro p e s m below meth c A C0 hA hP hD ls hl
  have C0 : MX p s m [.ref a0, .int x1, .int x2, .int x3, .int x4, .int x5].toArray meth c cX11_book 6 wsX11_book RX11 (some .int) D cA := C0
  have hl : lv_has ls 6 [(0, .ref a0), (1, .int x1), (2, .int x2), (3, .int x3), (4, .int x4), (5, .int x5)] := hl
  obtain ⟨hx, hb, hml, hown, hts, hr, hlocks, hX⟩ := id C0
  have hK := hX.1
  have hN := hX.2
  have hS : va_S A s.heap s.heap [] := va_S.rf
  unfold f_X11_book at hf
  refine lv_aload_n hx hb dX11_book_0 rfl (lv_at hl 0 rfl) ?_
  refine va_get (D := D) (ci := 11) (v := .ref q_ocean) (C := RX11) (T := TX11) (N := 11) hx hb hts hn_X11_book_X11 hown hK hP 0 rfl rfl 1 (by decide) (hts _ hw_X11_book_f19) (fun _ h9 => h9) rfl dX11_book_1 ?_
  refine lv_iload_n hx hb dX11_book_4 rfl (lv_at hl 1 rfl) ?_
  obtain ⟨r_1, hc_2, hf⟩ := pcl_e hf
  refine m_callV2 (As := [.int x1]) (rest := []) ⟨hx, hb, hml, hown, hts⟩ hX (ct_X4_isSea l D cA x1 q_ocean q_ocean_depths q_ocean_figures q_ocean_times s_ocean_pace s_ocean_fade s_ocean_depths r_1 hc_2) (cwV 1 hts gX11_book_X4_isSea rfl rfl rfl (by decide +kernel) ⟨Nat.le_of_ble_eq_true rfl, Nat.le_of_ble_eq_true rfl⟩) hP hD hS hA [1, 2] [0, 3, 4, 5, 6, 7, 8, 9] 10 (by decide) rfl rfl (WS' := (w_X11_book a0 q_ocean q_ocean_depths q_found q_found_books q_found_books_cells q_found_books_froms q_found_books_tos q_found_books_lows q_found_books_highs q_text q_trees q_images q_search q_stories q_signs q_calendar q_draft q_ocean_figures q_ocean_times q_found_sheets q_found_known q_found_weights cA s_yearOfNow s_ocean_pace s_ocean_fade s_ocean_depths s_found_dugMarshes s_found_kept s_found_books_count s_found_books_cells s_found_books_froms s_found_books_tos s_found_books_lows s_found_books_highs)) (WR := [(a0, .inr (11, [.ref q_text, .ref q_ocean, .ref q_trees, .ref q_found, .ref q_images, .ref q_search, .ref q_stories, .ref q_signs, .ref q_calendar, .ref q_draft, .int s_yearOfNow])), (q_found, .inr (2, [.ref q_found_books, .ref q_found_sheets, .ref q_found_known, .ref q_found_weights, .int s_found_dugMarshes, .int s_found_kept])), (q_found_books, .inr (0, [.ref q_found_books_cells, .ref q_found_books_froms, .ref q_found_books_tos, .ref q_found_books_lows, .ref q_found_books_highs, .int s_found_books_count])), (q_found_books_cells, .inl (cA 1, 6, .inl s_found_books_cells)), (q_found_books_froms, .inl (cA 1, 6, .inl s_found_books_froms)), (q_found_books_tos, .inl (cA 1, 6, .inl s_found_books_tos)), (q_found_books_lows, .inl (cA 1, 6, .inl s_found_books_lows)), (q_found_books_highs, .inl (cA 1, 6, .inl s_found_books_highs))]) rfl rfl rfl rfl (by decide) (by decide) 1 4 rfl rfl rfl hl.1 rfl (st' := [.int r_1]) rfl (Nat.le_of_ble_eq_true rfl) ⟨Nat.zero_le _, Nat.zero_le _⟩ dX11_book_5 (fun H locs hP hD hS => ?_)
  refine lv_if_ne (tgt := 13) hx hb dX11_book_8 (by decide) (fun c_3 => ?_) (fun c_3 => ?_)
  · have hf := pbr_f c_3 hf
    refine lv_iload_n hx hb dX11_book_13 rfl (lv_at hl 2 rfl) ?_
    refine lv_iload_n hx hb dX11_book_14 rfl (lv_at hl 3 rfl) ?_
    refine lv_sipush (v := (-9999 : Int32)) hx hb dX11_book_15 (by decide) ?_
    refine lv_sipush (v := (9999 : Int32)) hx hb dX11_book_18 (by decide) ?_
    obtain ⟨r_4, hc_5, hf⟩ := pcl_e hf
    refine m_callS2 (As := [.int x2, .int x3, .int (-9999 : Int32), .int (9999 : Int32)]) (rest := []) ⟨hx, hb, hml, hown, hts⟩ hX (ct_X11_isSpan l D cA x2 x3 (-9999 : Int32) (9999 : Int32) r_4 hc_5) (va_cwS 4 hts gX11_book_X11_isSpan rfl rfl rfl (by decide +kernel) ⟨Nat.le_of_ble_eq_true rfl, Nat.le_of_ble_eq_true rfl⟩) hP hD hS hA [] [0, 1, 2, 3, 4, 5, 6, 7, 8, 9] 10 (by decide) rfl rfl (WS' := (w_X11_book a0 q_ocean q_ocean_depths q_found q_found_books q_found_books_cells q_found_books_froms q_found_books_tos q_found_books_lows q_found_books_highs q_text q_trees q_images q_search q_stories q_signs q_calendar q_draft q_ocean_figures q_ocean_times q_found_sheets q_found_known q_found_weights cA s_yearOfNow s_ocean_pace s_ocean_fade s_ocean_depths s_found_dugMarshes s_found_kept s_found_books_count s_found_books_cells s_found_books_froms s_found_books_tos s_found_books_lows s_found_books_highs)) (WR := [(a0, .inr (11, [.ref q_text, .ref q_ocean, .ref q_trees, .ref q_found, .ref q_images, .ref q_search, .ref q_stories, .ref q_signs, .ref q_calendar, .ref q_draft, .int s_yearOfNow])), (q_ocean, .inr (4, [.ref q_ocean_depths, .ref q_ocean_figures, .ref q_ocean_times, .int s_ocean_pace, .int s_ocean_fade])), (q_ocean_depths, .inl (cA 1, 48, .inl s_ocean_depths)), (q_found, .inr (2, [.ref q_found_books, .ref q_found_sheets, .ref q_found_known, .ref q_found_weights, .int s_found_dugMarshes, .int s_found_kept])), (q_found_books, .inr (0, [.ref q_found_books_cells, .ref q_found_books_froms, .ref q_found_books_tos, .ref q_found_books_lows, .ref q_found_books_highs, .int s_found_books_count])), (q_found_books_cells, .inl (cA 1, 6, .inl s_found_books_cells)), (q_found_books_froms, .inl (cA 1, 6, .inl s_found_books_froms)), (q_found_books_tos, .inl (cA 1, 6, .inl s_found_books_tos)), (q_found_books_lows, .inl (cA 1, 6, .inl s_found_books_lows)), (q_found_books_highs, .inl (cA 1, 6, .inl s_found_books_highs))]) rfl rfl rfl rfl (by decide) (by decide) rfl hl.1 rfl (st' := [.int r_4]) rfl (Nat.le_of_ble_eq_true rfl) ⟨Nat.zero_le _, Nat.zero_le _⟩ dX11_book_21 (fun H locs hP hD hS => ?_)
    refine lv_if_ne (tgt := 29) hx hb dX11_book_24 (by decide) (fun c_6 => ?_) (fun c_6 => ?_)
    · have hf := pbr_f c_6 hf
      refine lv_iload hx hb dX11_book_29 (lv_at hl 4 rfl) ?_
      refine lv_iload hx hb dX11_book_31 (lv_at hl 5 rfl) ?_
      refine lv_iconst (v := (0 : Int32)) hx hb dX11_book_33 (by decide) ?_
      refine lv_sipush (v := (999 : Int32)) hx hb dX11_book_34 (by decide) ?_
      obtain ⟨r_7, hc_8, hf⟩ := pcl_e hf
      refine m_callS2 (As := [.int x4, .int x5, .int (0 : Int32), .int (999 : Int32)]) (rest := []) ⟨hx, hb, hml, hown, hts⟩ hX (ct_X11_isSpan l D cA x4 x5 (0 : Int32) (999 : Int32) r_7 hc_8) (va_cwS 4 hts gX11_book_X11_isSpan rfl rfl rfl (by decide +kernel) ⟨Nat.le_of_ble_eq_true rfl, Nat.le_of_ble_eq_true rfl⟩) hP hD hS hA [] [0, 1, 2, 3, 4, 5, 6, 7, 8, 9] 10 (by decide) rfl rfl (WS' := (w_X11_book a0 q_ocean q_ocean_depths q_found q_found_books q_found_books_cells q_found_books_froms q_found_books_tos q_found_books_lows q_found_books_highs q_text q_trees q_images q_search q_stories q_signs q_calendar q_draft q_ocean_figures q_ocean_times q_found_sheets q_found_known q_found_weights cA s_yearOfNow s_ocean_pace s_ocean_fade s_ocean_depths s_found_dugMarshes s_found_kept s_found_books_count s_found_books_cells s_found_books_froms s_found_books_tos s_found_books_lows s_found_books_highs)) (WR := [(a0, .inr (11, [.ref q_text, .ref q_ocean, .ref q_trees, .ref q_found, .ref q_images, .ref q_search, .ref q_stories, .ref q_signs, .ref q_calendar, .ref q_draft, .int s_yearOfNow])), (q_ocean, .inr (4, [.ref q_ocean_depths, .ref q_ocean_figures, .ref q_ocean_times, .int s_ocean_pace, .int s_ocean_fade])), (q_ocean_depths, .inl (cA 1, 48, .inl s_ocean_depths)), (q_found, .inr (2, [.ref q_found_books, .ref q_found_sheets, .ref q_found_known, .ref q_found_weights, .int s_found_dugMarshes, .int s_found_kept])), (q_found_books, .inr (0, [.ref q_found_books_cells, .ref q_found_books_froms, .ref q_found_books_tos, .ref q_found_books_lows, .ref q_found_books_highs, .int s_found_books_count])), (q_found_books_cells, .inl (cA 1, 6, .inl s_found_books_cells)), (q_found_books_froms, .inl (cA 1, 6, .inl s_found_books_froms)), (q_found_books_tos, .inl (cA 1, 6, .inl s_found_books_tos)), (q_found_books_lows, .inl (cA 1, 6, .inl s_found_books_lows)), (q_found_books_highs, .inl (cA 1, 6, .inl s_found_books_highs))]) rfl rfl rfl rfl (by decide) (by decide) rfl hl.1 rfl (st' := [.int r_7]) rfl (Nat.le_of_ble_eq_true rfl) ⟨Nat.zero_le _, Nat.zero_le _⟩ dX11_book_37 (fun H locs hP hD hS => ?_)
      refine lv_if_ne (tgt := 45) hx hb dX11_book_40 (by decide) (fun c_9 => ?_) (fun c_9 => ?_)
      · have hf := pbr_f c_9 hf
        refine lv_aload_n hx hb dX11_book_45 rfl (lv_at hl 0 rfl) ?_
        refine va_get (D := D) (ci := 11) (v := .ref q_found) (C := RX11) (T := TX11) (N := 11) hx hb hts hn_X11_book_X11 hown hK hP 0 rfl rfl 3 (by decide) (hts _ hw_X11_book_f33) (fun _ h9 => h9) rfl dX11_book_46 ?_
        refine va_getN (D := D) (ci := 2) (v := .ref q_found_books) (C := RX2) (T := TX2) (N := 6) hx hb hts hn_X11_book_X2 hown hK hP 3 rfl rfl 0 (by decide) (va_Nw.use rfl (hN _ nw_X11_43)) (fun _ h9 => h9) rfl dX11_book_49 ?_
        refine va_getN (D := D) (ci := 0) (v := .int s_found_books_count) (C := RX0) (T := TX0) (N := 6) hx hb hts hn_X11_book_X0 hown hK hP 4 rfl rfl 5 (by decide) (va_Nw.use rfl (hN _ nw_X11_141)) (fun _ h9 => h9) rfl dX11_book_52 ?_
        refine lv_bipush (v := (6 : Int32)) hx hb dX11_book_55 (by decide) ?_
        refine lv_icmp_lt (tgt := 63) hx hb dX11_book_57 (by decide) (fun c_10 => ?_) (fun c_10 => ?_)
        · have hf := pbr_t c_10 hf
          refine lv_aload_n hx hb dX11_book_63 rfl (lv_at hl 0 rfl) ?_
          refine va_get (D := D) (ci := 11) (v := .ref q_found) (C := RX11) (T := TX11) (N := 11) hx hb hts hn_X11_book_X11 hown hK hP 0 rfl rfl 3 (by decide) (hts _ hw_X11_book_f33) (fun _ h9 => h9) rfl dX11_book_64 ?_
          refine va_getN (D := D) (ci := 2) (v := .ref q_found_books) (C := RX2) (T := TX2) (N := 6) hx hb hts hn_X11_book_X2 hown hK hP 3 rfl rfl 0 (by decide) (va_Nw.use rfl (hN _ nw_X11_43)) (fun _ h9 => h9) rfl dX11_book_67 ?_
          refine lv_iload_n hx hb dX11_book_70 rfl (lv_at hl 1 rfl) ?_
          refine lv_iload_n hx hb dX11_book_71 rfl (lv_at hl 2 rfl) ?_
          refine lv_iload_n hx hb dX11_book_72 rfl (lv_at hl 3 rfl) ?_
          refine lv_iload hx hb dX11_book_73 (lv_at hl 4 rfl) ?_
          refine lv_iload hx hb dX11_book_75 (lv_at hl 5 rfl) ?_
          obtain ⟨⟨r_11, count_12, cells_13, froms_14, tos_15, lows_16, highs_17⟩, hc_18, hf⟩ := pcl_e hf
          refine m_callV2 (As := [.int x1, .int x2, .int x3, .int x4, .int x5]) (rest := []) ⟨hx, hb, hml, hown, hts⟩ hX (ct_X0_add l D cA x1 x2 x3 x4 x5 q_found_books q_found_books_cells q_found_books_froms q_found_books_tos q_found_books_lows q_found_books_highs s_found_books_count s_found_books_cells s_found_books_froms s_found_books_tos s_found_books_lows s_found_books_highs r_11 count_12 cells_13 froms_14 tos_15 lows_16 highs_17 hc_18) (cwV 5 hts gX11_book_X0_add rfl rfl rfl (by decide +kernel) ⟨Nat.le_of_ble_eq_true rfl, Nat.le_of_ble_eq_true rfl⟩) hP hD hS hA [4, 5, 6, 7, 8, 9] [0, 1, 2, 3] 10 (by decide) rfl rfl (WS' := (w_X11_book a0 q_ocean q_ocean_depths q_found q_found_books q_found_books_cells q_found_books_froms q_found_books_tos q_found_books_lows q_found_books_highs q_text q_trees q_images q_search q_stories q_signs q_calendar q_draft q_ocean_figures q_ocean_times q_found_sheets q_found_known q_found_weights cA s_yearOfNow s_ocean_pace s_ocean_fade s_ocean_depths s_found_dugMarshes s_found_kept count_12 cells_13 froms_14 tos_15 lows_16 highs_17)) (WR := [(a0, .inr (11, [.ref q_text, .ref q_ocean, .ref q_trees, .ref q_found, .ref q_images, .ref q_search, .ref q_stories, .ref q_signs, .ref q_calendar, .ref q_draft, .int s_yearOfNow])), (q_ocean, .inr (4, [.ref q_ocean_depths, .ref q_ocean_figures, .ref q_ocean_times, .int s_ocean_pace, .int s_ocean_fade])), (q_ocean_depths, .inl (cA 1, 48, .inl s_ocean_depths)), (q_found, .inr (2, [.ref q_found_books, .ref q_found_sheets, .ref q_found_known, .ref q_found_weights, .int s_found_dugMarshes, .int s_found_kept]))]) rfl rfl rfl rfl (by decide) (by decide) 4 0 rfl rfl rfl hl.1 rfl (st' := [.int r_11]) rfl (Nat.le_of_ble_eq_true rfl) ⟨Nat.zero_le _, Nat.zero_le _⟩ dX11_book_77 (fun H locs hP hD hS => ?_)
          obtain ⟨rfl, rfl, rfl, rfl, rfl, rfl, rfl⟩ := pe7 hf
          exact m_iret hx hb hr hlocks hP hS dX11_book_80
        have hf := pbr_f c_10 hf
        refine lv_bipush (v := (-3 : Int32)) hx hb dX11_book_60 (by decide) ?_
        obtain ⟨rfl, rfl, rfl, rfl, rfl, rfl, rfl⟩ := pe7 hf
        exact m_iret hx hb hr hlocks hP hS dX11_book_62
      have hf := pbr_t c_9 hf
      refine lv_iconst (v := (-1 : Int32)) hx hb dX11_book_43 (by decide) ?_
      obtain ⟨rfl, rfl, rfl, rfl, rfl, rfl, rfl⟩ := pe7 hf
      exact m_iret hx hb hr hlocks hP hS dX11_book_44
    have hf := pbr_t c_6 hf
    refine lv_iconst (v := (-1 : Int32)) hx hb dX11_book_27 (by decide) ?_
    obtain ⟨rfl, rfl, rfl, rfl, rfl, rfl, rfl⟩ := pe7 hf
    exact m_iret hx hb hr hlocks hP hS dX11_book_28
  have hf := pbr_t c_3 hf
  refine lv_iconst (v := (-1 : Int32)) hx hb dX11_book_11 (by decide) ?_
  obtain ⟨rfl, rfl, rfl, rfl, rfl, rfl, rfl⟩ := pe7 hf
  exact m_iret hx hb hr hlocks hP hS dX11_book_12

/-! ===== OrphanWave.begins(II)I ===== -/
abbrev rm_X11_begins : Room := { frames := 4, cells := 0, slots := 0, locals := 93 }
abbrev wx_X11_begins (a0 : Nat) (q_ocean : Nat) (q_ocean_depths : Nat) (q_found : Nat) (q_found_books : Nat) (q_search : Nat) (q_found_books_cells : Nat) (q_found_books_lows : Nat) (q_found_books_highs : Nat) (q_found_books_tos : Nat) (q_found_books_froms : Nat) (q_search_times : Nat) (q_text : Nat) (q_trees : Nat) (q_images : Nat) (q_stories : Nat) (q_signs : Nat) (q_calendar : Nat) (q_draft : Nat) (q_ocean_figures : Nat) (q_ocean_times : Nat) (q_found_sheets : Nat) (q_found_known : Nat) (q_found_weights : Nat) (r_search_times : Nat → Nat) (cA : Nat → ClassId) (s_yearOfNow : Int32) (s_ocean_pace : Int32) (s_ocean_fade : Int32) (s_ocean_depths : Nat → Int32) (s_found_dugMarshes : Int32) (s_found_kept : Int32) (s_found_books_count : Int32) (s_found_books_cells : Nat → Int32) (s_found_books_lows : Nat → Int32) (s_found_books_highs : Nat → Int32) (s_found_books_tos : Nat → Int32) (s_found_books_froms : Nat → Int32) (s_search_times : Nat → Nat → Int32) : va_W := [(a0, .inr (11, [.ref q_text, .ref q_ocean, .ref q_trees, .ref q_found, .ref q_images, .ref q_search, .ref q_stories, .ref q_signs, .ref q_calendar, .ref q_draft, .int s_yearOfNow])), (q_ocean, .inr (4, [.ref q_ocean_depths, .ref q_ocean_figures, .ref q_ocean_times, .int s_ocean_pace, .int s_ocean_fade])), (q_ocean_depths, .inl (cA 1, 48, .inl s_ocean_depths)), (q_found, .inr (2, [.ref q_found_books, .ref q_found_sheets, .ref q_found_known, .ref q_found_weights, .int s_found_dugMarshes, .int s_found_kept])), (q_found_books, .inr (0, [.ref q_found_books_cells, .ref q_found_books_froms, .ref q_found_books_tos, .ref q_found_books_lows, .ref q_found_books_highs, .int s_found_books_count])), (q_search, .inr (5, [.ref q_ocean, .ref q_found_books, .ref q_search_times])), (q_found_books_cells, .inl (cA 1, 6, .inl s_found_books_cells)), (q_found_books_lows, .inl (cA 1, 6, .inl s_found_books_lows)), (q_found_books_highs, .inl (cA 1, 6, .inl s_found_books_highs)), (q_found_books_tos, .inl (cA 1, 6, .inl s_found_books_tos)), (q_found_books_froms, .inl (cA 1, 6, .inl s_found_books_froms)), (q_search_times, .inl (cA 5, 6, .inr (.inr (.inr (.inr (gro 6 r_search_times))))))]
abbrev w_X11_begins (a0 : Nat) (q_ocean : Nat) (q_ocean_depths : Nat) (q_found : Nat) (q_found_books : Nat) (q_search : Nat) (q_found_books_cells : Nat) (q_found_books_lows : Nat) (q_found_books_highs : Nat) (q_found_books_tos : Nat) (q_found_books_froms : Nat) (q_search_times : Nat) (q_text : Nat) (q_trees : Nat) (q_images : Nat) (q_stories : Nat) (q_signs : Nat) (q_calendar : Nat) (q_draft : Nat) (q_ocean_figures : Nat) (q_ocean_times : Nat) (q_found_sheets : Nat) (q_found_known : Nat) (q_found_weights : Nat) (r_search_times : Nat → Nat) (cA : Nat → ClassId) (s_yearOfNow : Int32) (s_ocean_pace : Int32) (s_ocean_fade : Int32) (s_ocean_depths : Nat → Int32) (s_found_dugMarshes : Int32) (s_found_kept : Int32) (s_found_books_count : Int32) (s_found_books_cells : Nat → Int32) (s_found_books_lows : Nat → Int32) (s_found_books_highs : Nat → Int32) (s_found_books_tos : Nat → Int32) (s_found_books_froms : Nat → Int32) (s_search_times : Nat → Nat → Int32) : va_W := [(a0, .inr (11, [.ref q_text, .ref q_ocean, .ref q_trees, .ref q_found, .ref q_images, .ref q_search, .ref q_stories, .ref q_signs, .ref q_calendar, .ref q_draft, .int s_yearOfNow])), (q_ocean, .inr (4, [.ref q_ocean_depths, .ref q_ocean_figures, .ref q_ocean_times, .int s_ocean_pace, .int s_ocean_fade])), (q_ocean_depths, .inl (cA 1, 48, .inl s_ocean_depths)), (q_found, .inr (2, [.ref q_found_books, .ref q_found_sheets, .ref q_found_known, .ref q_found_weights, .int s_found_dugMarshes, .int s_found_kept])), (q_found_books, .inr (0, [.ref q_found_books_cells, .ref q_found_books_froms, .ref q_found_books_tos, .ref q_found_books_lows, .ref q_found_books_highs, .int s_found_books_count])), (q_search, .inr (5, [.ref q_ocean, .ref q_found_books, .ref q_search_times])), (q_found_books_cells, .inl (cA 1, 6, .inl s_found_books_cells)), (q_found_books_lows, .inl (cA 1, 6, .inl s_found_books_lows)), (q_found_books_highs, .inl (cA 1, 6, .inl s_found_books_highs)), (q_found_books_tos, .inl (cA 1, 6, .inl s_found_books_tos)), (q_found_books_froms, .inl (cA 1, 6, .inl s_found_books_froms)), (q_search_times, .inl (cA 5, 6, .inr (.inr (.inr (.inr (gro 6 r_search_times))))))] ++ grw 6 r_search_times (cA 1) 48 s_search_times
theorem hn_X11_begins_X11 : ∀ w ∈ u_ws RX11 TX11 11, w ∈ wsX11_begins := by decide +kernel
theorem hn_X11_begins_X2 : ∀ w ∈ u_ws RX2 TX2 6, w ∈ wsX11_begins := by decide +kernel
theorem hn_X11_begins_X0 : ∀ w ∈ u_ws RX0 TX0 6, w ∈ wsX11_begins := by decide +kernel
theorem hw_X11_begins_f19 : Cond.fieldLink RX11 19 "OrphanWave" "ocean" "LOrphanWave$Ocean;" ∈ wsX11_begins := by decide +kernel
theorem hw_X11_begins_f33 : Cond.fieldLink RX11 33 "OrphanWave" "found" "LOrphanWave$Findings;" ∈ wsX11_begins := by decide +kernel
theorem hw_X11_begins_f50 : Cond.fieldLink RX11 50 "OrphanWave" "search" "LOrphanWave$Search;" ∈ wsX11_begins := by decide +kernel

def f_X11_begins (x1 : Int32) (x2 : Int32) (s_ocean_pace : Int32) (s_ocean_fade : Int32) (s_ocean_depths : Nat → Int32) (s_found_books_count : Int32) (s_found_books_cells : Nat → Int32) (s_found_books_lows : Nat → Int32) (s_found_books_highs : Nat → Int32) (s_found_books_tos : Nat → Int32) (s_found_books_froms : Nat → Int32) (s_search_times : Nat → Nat → Int32) : Option ((Int32) × (Nat → Nat → Int32)) :=
  pcl (f_X4_isSea x1 s_ocean_depths) (fun r_1 => (
  pbr (r_1 = 0)
    (some ((-1 : Int32), s_search_times))
    (pcl (f_X11_isSize x2) (fun r_4 => (
    pbr (r_4 = 0)
      (some ((-1 : Int32), s_search_times))
      (pbr (s_found_books_count = 0)
        (some ((-9 : Int32), s_search_times))
        (pcl (f_X5_measure s_found_books_count s_found_books_cells s_ocean_pace s_ocean_depths s_search_times) (fun times_8 => (
        pcl (f_X5_beginsOf x1 x2 s_found_books_count s_ocean_fade s_found_books_cells s_ocean_depths s_found_books_lows s_found_books_highs s_found_books_tos s_found_books_froms times_8) (fun r_10 => (
        some (r_10, times_8))))))))))))

set_option maxRecDepth 100000 in
set_option maxHeartbeats 4000000 in
theorem ct_X11_begins (l : Launch) (D : va_G) (cA : Nat → ClassId) (x1 : Int32) (x2 : Int32) (a0 : Nat) (q_ocean : Nat) (q_ocean_depths : Nat) (q_found : Nat) (q_found_books : Nat) (q_search : Nat) (q_found_books_cells : Nat) (q_found_books_lows : Nat) (q_found_books_highs : Nat) (q_found_books_tos : Nat) (q_found_books_froms : Nat) (q_search_times : Nat) (q_text : Nat) (q_trees : Nat) (q_images : Nat) (q_stories : Nat) (q_signs : Nat) (q_calendar : Nat) (q_draft : Nat) (q_ocean_figures : Nat) (q_ocean_times : Nat) (q_found_sheets : Nat) (q_found_known : Nat) (q_found_weights : Nat) (r_search_times : Nat → Nat) (s_yearOfNow : Int32) (s_ocean_pace : Int32) (s_ocean_fade : Int32) (s_ocean_depths : Nat → Int32) (s_found_dugMarshes : Int32) (s_found_kept : Int32) (s_found_books_count : Int32) (s_found_books_cells : Nat → Int32) (s_found_books_lows : Nat → Int32) (s_found_books_highs : Nat → Int32) (s_found_books_tos : Nat → Int32) (s_found_books_froms : Nat → Int32) (s_search_times : Nat → Nat → Int32) (o_r : Int32) (o_search_times : Nat → Nat → Int32) (hf : f_X11_begins x1 x2 s_ocean_pace s_ocean_fade s_ocean_depths s_found_books_count s_found_books_cells s_found_books_lows s_found_books_highs s_found_books_tos s_found_books_froms s_search_times = some (o_r, o_search_times)) : CT l yX11_begins wsX11_begins rm_X11_begins D cA [.ref a0, .int x1, .int x2] (w_X11_begins a0 q_ocean q_ocean_depths q_found q_found_books q_search q_found_books_cells q_found_books_lows q_found_books_highs q_found_books_tos q_found_books_froms q_search_times q_text q_trees q_images q_stories q_signs q_calendar q_draft q_ocean_figures q_ocean_times q_found_sheets q_found_known q_found_weights r_search_times cA s_yearOfNow s_ocean_pace s_ocean_fade s_ocean_depths s_found_dugMarshes s_found_kept s_found_books_count s_found_books_cells s_found_books_lows s_found_books_highs s_found_books_tos s_found_books_froms s_search_times) (w_X11_begins a0 q_ocean q_ocean_depths q_found q_found_books q_search q_found_books_cells q_found_books_lows q_found_books_highs q_found_books_tos q_found_books_froms q_search_times q_text q_trees q_images q_stories q_signs q_calendar q_draft q_ocean_figures q_ocean_times q_found_sheets q_found_known q_found_weights r_search_times cA s_yearOfNow s_ocean_pace s_ocean_fade s_ocean_depths s_found_dugMarshes s_found_kept s_found_books_count s_found_books_cells s_found_books_lows s_found_books_highs s_found_books_tos s_found_books_froms o_search_times) (some (.int o_r)) := by
  refine CT.ofW (cc := cX11_begins) (maxL := 3) (ret := (some .int)) (by decide +kernel) rfl (Nat.le_of_ble_eq_true rfl) ?_
  intro p e s m below meth c A C0 hA hP hD ls hl
  have C0 : MX p s m [.ref a0, .int x1, .int x2].toArray meth c cX11_begins 3 wsX11_begins RX11 (some .int) D cA := C0
  have hl : lv_has ls 3 [(0, .ref a0), (1, .int x1), (2, .int x2)] := hl
  obtain ⟨hx, hb, hml, hown, hts, hr, hlocks, hX⟩ := id C0
  have hK := hX.1
  have hN := hX.2
  have hS : va_S A s.heap s.heap [] := va_S.rf
  unfold f_X11_begins at hf
  refine lv_aload_n hx hb dX11_begins_0 rfl (lv_at hl 0 rfl) ?_
  refine va_get (D := D) (ci := 11) (v := .ref q_ocean) (C := RX11) (T := TX11) (N := 11) hx hb hts hn_X11_begins_X11 hown hK hP 0 rfl rfl 1 (by decide) (hts _ hw_X11_begins_f19) (fun _ h9 => h9) rfl dX11_begins_1 ?_
  refine lv_iload_n hx hb dX11_begins_4 rfl (lv_at hl 1 rfl) ?_
  obtain ⟨r_1, hc_2, hf⟩ := pcl_e hf
  refine m_callV2 (As := [.int x1]) (rest := []) ⟨hx, hb, hml, hown, hts⟩ hX (ct_X4_isSea l D cA x1 q_ocean q_ocean_depths q_ocean_figures q_ocean_times s_ocean_pace s_ocean_fade s_ocean_depths r_1 hc_2) (cwV 1 hts gX11_begins_X4_isSea rfl rfl rfl (by decide +kernel) ⟨Nat.le_of_ble_eq_true rfl, Nat.le_of_ble_eq_true rfl⟩) hP hD hS hA [1, 2] [0, 3, 4, 5, 6, 7, 8, 9, 10, 11, 12, 13, 14, 15, 16, 17] 18 (by decide) rfl rfl (WS' := (w_X11_begins a0 q_ocean q_ocean_depths q_found q_found_books q_search q_found_books_cells q_found_books_lows q_found_books_highs q_found_books_tos q_found_books_froms q_search_times q_text q_trees q_images q_stories q_signs q_calendar q_draft q_ocean_figures q_ocean_times q_found_sheets q_found_known q_found_weights r_search_times cA s_yearOfNow s_ocean_pace s_ocean_fade s_ocean_depths s_found_dugMarshes s_found_kept s_found_books_count s_found_books_cells s_found_books_lows s_found_books_highs s_found_books_tos s_found_books_froms s_search_times)) (WR := [(a0, .inr (11, [.ref q_text, .ref q_ocean, .ref q_trees, .ref q_found, .ref q_images, .ref q_search, .ref q_stories, .ref q_signs, .ref q_calendar, .ref q_draft, .int s_yearOfNow])), (q_found, .inr (2, [.ref q_found_books, .ref q_found_sheets, .ref q_found_known, .ref q_found_weights, .int s_found_dugMarshes, .int s_found_kept])), (q_found_books, .inr (0, [.ref q_found_books_cells, .ref q_found_books_froms, .ref q_found_books_tos, .ref q_found_books_lows, .ref q_found_books_highs, .int s_found_books_count])), (q_search, .inr (5, [.ref q_ocean, .ref q_found_books, .ref q_search_times])), (q_found_books_cells, .inl (cA 1, 6, .inl s_found_books_cells)), (q_found_books_lows, .inl (cA 1, 6, .inl s_found_books_lows)), (q_found_books_highs, .inl (cA 1, 6, .inl s_found_books_highs)), (q_found_books_tos, .inl (cA 1, 6, .inl s_found_books_tos)), (q_found_books_froms, .inl (cA 1, 6, .inl s_found_books_froms)), (q_search_times, .inl (cA 5, 6, .inr (.inr (.inr (.inr (gro 6 r_search_times))))))] ++ grw 6 r_search_times (cA 1) 48 s_search_times) rfl rfl rfl rfl (by decide) (by decide) 1 4 rfl rfl rfl hl.1 rfl (st' := [.int r_1]) rfl (Nat.le_of_ble_eq_true rfl) ⟨Nat.zero_le _, Nat.zero_le _⟩ dX11_begins_5 (fun H locs hP hD hS => ?_)
  refine lv_if_eq (tgt := 18) hx hb dX11_begins_8 (by decide) (fun c_3 => ?_) (fun c_3 => ?_)
  · have hf := pbr_t c_3 hf
    refine lv_iconst (v := (-1 : Int32)) hx hb dX11_begins_18 (by decide) ?_
    obtain ⟨rfl, rfl⟩ := pe2 hf
    exact m_iret hx hb hr hlocks hP hS dX11_begins_19
  have hf := pbr_f c_3 hf
  refine lv_iload_n hx hb dX11_begins_11 rfl (lv_at hl 2 rfl) ?_
  obtain ⟨r_4, hc_5, hf⟩ := pcl_e hf
  refine m_callS2 (As := [.int x2]) (rest := []) ⟨hx, hb, hml, hown, hts⟩ hX (ct_X11_isSize l D cA x2 r_4 hc_5) (va_cwS 1 hts gX11_begins_X11_isSize rfl rfl rfl (by decide +kernel) ⟨Nat.le_of_ble_eq_true rfl, Nat.le_of_ble_eq_true rfl⟩) hP hD hS hA [] [0, 1, 2, 3, 4, 5, 6, 7, 8, 9, 10, 11, 12, 13, 14, 15, 16, 17] 18 (by decide) rfl rfl (WS' := (w_X11_begins a0 q_ocean q_ocean_depths q_found q_found_books q_search q_found_books_cells q_found_books_lows q_found_books_highs q_found_books_tos q_found_books_froms q_search_times q_text q_trees q_images q_stories q_signs q_calendar q_draft q_ocean_figures q_ocean_times q_found_sheets q_found_known q_found_weights r_search_times cA s_yearOfNow s_ocean_pace s_ocean_fade s_ocean_depths s_found_dugMarshes s_found_kept s_found_books_count s_found_books_cells s_found_books_lows s_found_books_highs s_found_books_tos s_found_books_froms s_search_times)) (WR := [(a0, .inr (11, [.ref q_text, .ref q_ocean, .ref q_trees, .ref q_found, .ref q_images, .ref q_search, .ref q_stories, .ref q_signs, .ref q_calendar, .ref q_draft, .int s_yearOfNow])), (q_ocean, .inr (4, [.ref q_ocean_depths, .ref q_ocean_figures, .ref q_ocean_times, .int s_ocean_pace, .int s_ocean_fade])), (q_ocean_depths, .inl (cA 1, 48, .inl s_ocean_depths)), (q_found, .inr (2, [.ref q_found_books, .ref q_found_sheets, .ref q_found_known, .ref q_found_weights, .int s_found_dugMarshes, .int s_found_kept])), (q_found_books, .inr (0, [.ref q_found_books_cells, .ref q_found_books_froms, .ref q_found_books_tos, .ref q_found_books_lows, .ref q_found_books_highs, .int s_found_books_count])), (q_search, .inr (5, [.ref q_ocean, .ref q_found_books, .ref q_search_times])), (q_found_books_cells, .inl (cA 1, 6, .inl s_found_books_cells)), (q_found_books_lows, .inl (cA 1, 6, .inl s_found_books_lows)), (q_found_books_highs, .inl (cA 1, 6, .inl s_found_books_highs)), (q_found_books_tos, .inl (cA 1, 6, .inl s_found_books_tos)), (q_found_books_froms, .inl (cA 1, 6, .inl s_found_books_froms)), (q_search_times, .inl (cA 5, 6, .inr (.inr (.inr (.inr (gro 6 r_search_times))))))] ++ grw 6 r_search_times (cA 1) 48 s_search_times) rfl rfl rfl rfl (by decide) (by decide) rfl hl.1 rfl (st' := [.int r_4]) rfl (Nat.le_of_ble_eq_true rfl) ⟨Nat.zero_le _, Nat.zero_le _⟩ dX11_begins_12 (fun H locs hP hD hS => ?_)
  refine lv_if_ne (tgt := 20) hx hb dX11_begins_15 (by decide) (fun c_6 => ?_) (fun c_6 => ?_)
  · have hf := pbr_f c_6 hf
    refine lv_aload_n hx hb dX11_begins_20 rfl (lv_at hl 0 rfl) ?_
    refine va_get (D := D) (ci := 11) (v := .ref q_found) (C := RX11) (T := TX11) (N := 11) hx hb hts hn_X11_begins_X11 hown hK hP 0 rfl rfl 3 (by decide) (hts _ hw_X11_begins_f33) (fun _ h9 => h9) rfl dX11_begins_21 ?_
    refine va_getN (D := D) (ci := 2) (v := .ref q_found_books) (C := RX2) (T := TX2) (N := 6) hx hb hts hn_X11_begins_X2 hown hK hP 3 rfl rfl 0 (by decide) (va_Nw.use rfl (hN _ nw_X11_43)) (fun _ h9 => h9) rfl dX11_begins_24 ?_
    refine va_getN (D := D) (ci := 0) (v := .int s_found_books_count) (C := RX0) (T := TX0) (N := 6) hx hb hts hn_X11_begins_X0 hown hK hP 4 rfl rfl 5 (by decide) (va_Nw.use rfl (hN _ nw_X11_141)) (fun _ h9 => h9) rfl dX11_begins_27 ?_
    refine lv_if_ne (tgt := 36) hx hb dX11_begins_30 (by decide) (fun c_7 => ?_) (fun c_7 => ?_)
    · have hf := pbr_f c_7 hf
      refine lv_aload_n hx hb dX11_begins_36 rfl (lv_at hl 0 rfl) ?_
      refine va_get (D := D) (ci := 11) (v := .ref q_search) (C := RX11) (T := TX11) (N := 11) hx hb hts hn_X11_begins_X11 hown hK hP 0 rfl rfl 5 (by decide) (hts _ hw_X11_begins_f50) (fun _ h9 => h9) rfl dX11_begins_37 ?_
      obtain ⟨times_8, hc_9, hf⟩ := pcl_e hf
      refine m_callV2 (As := []) (rest := []) ⟨hx, hb, hml, hown, hts⟩ hX (ct_X5_measure l D cA q_search q_found_books q_found_books_cells q_ocean q_ocean_depths q_search_times q_found_books_froms q_found_books_tos q_found_books_lows q_found_books_highs q_ocean_figures q_ocean_times r_search_times s_found_books_count s_found_books_cells s_ocean_pace s_ocean_fade s_ocean_depths s_search_times times_8 hc_9) (cwV 0 hts gX11_begins_X5_measure rfl rfl rfl (by decide +kernel) ⟨Nat.le_of_ble_eq_true rfl, Nat.le_of_ble_eq_true rfl⟩) hP hD hS hA [5, 4, 6, 1, 2, 11, 12, 13, 14, 15, 16, 17] [0, 3, 7, 8, 9, 10] 18 (by decide) rfl rfl (WS' := (w_X11_begins a0 q_ocean q_ocean_depths q_found q_found_books q_search q_found_books_cells q_found_books_lows q_found_books_highs q_found_books_tos q_found_books_froms q_search_times q_text q_trees q_images q_stories q_signs q_calendar q_draft q_ocean_figures q_ocean_times q_found_sheets q_found_known q_found_weights r_search_times cA s_yearOfNow s_ocean_pace s_ocean_fade s_ocean_depths s_found_dugMarshes s_found_kept s_found_books_count s_found_books_cells s_found_books_lows s_found_books_highs s_found_books_tos s_found_books_froms times_8)) (WR := [(a0, .inr (11, [.ref q_text, .ref q_ocean, .ref q_trees, .ref q_found, .ref q_images, .ref q_search, .ref q_stories, .ref q_signs, .ref q_calendar, .ref q_draft, .int s_yearOfNow])), (q_found, .inr (2, [.ref q_found_books, .ref q_found_sheets, .ref q_found_known, .ref q_found_weights, .int s_found_dugMarshes, .int s_found_kept])), (q_found_books_lows, .inl (cA 1, 6, .inl s_found_books_lows)), (q_found_books_highs, .inl (cA 1, 6, .inl s_found_books_highs)), (q_found_books_tos, .inl (cA 1, 6, .inl s_found_books_tos)), (q_found_books_froms, .inl (cA 1, 6, .inl s_found_books_froms))]) rfl rfl rfl rfl (by decide) (by decide) 5 5 rfl rfl rfl hl.1 rfl (st' := []) rfl (Nat.le_of_ble_eq_true rfl) ⟨Nat.zero_le _, Nat.zero_le _⟩ dX11_begins_40 (fun H locs hP hD hS => ?_)
      refine lv_aload_n hx hb dX11_begins_43 rfl (lv_at hl 0 rfl) ?_
      refine va_get (D := D) (ci := 11) (v := .ref q_search) (C := RX11) (T := TX11) (N := 11) hx hb hts hn_X11_begins_X11 hown hK hP 0 rfl rfl 5 (by decide) (hts _ hw_X11_begins_f50) (fun _ h9 => h9) rfl dX11_begins_44 ?_
      refine lv_iload_n hx hb dX11_begins_47 rfl (lv_at hl 1 rfl) ?_
      refine lv_iload_n hx hb dX11_begins_48 rfl (lv_at hl 2 rfl) ?_
      obtain ⟨r_10, hc_11, hf⟩ := pcl_e hf
      refine m_callV2 (As := [.int x1, .int x2]) (rest := []) ⟨hx, hb, hml, hown, hts⟩ hX (ct_X5_beginsOf l D cA x1 x2 q_search q_found_books q_ocean q_found_books_cells q_ocean_depths q_found_books_lows q_found_books_highs q_found_books_tos q_found_books_froms q_search_times q_ocean_figures q_ocean_times r_search_times s_found_books_count s_ocean_pace s_ocean_fade s_found_books_cells s_ocean_depths s_found_books_lows s_found_books_highs s_found_books_tos s_found_books_froms times_8 r_10 hc_11) (cwV 2 hts gX11_begins_X5_beginsOf rfl rfl rfl (by decide +kernel) ⟨Nat.le_of_ble_eq_true rfl, Nat.le_of_ble_eq_true rfl⟩) hP hD hS hA [5, 4, 1, 6, 2, 7, 8, 9, 10, 11, 12, 13, 14, 15, 16, 17] [0, 3] 18 (by decide) rfl rfl (WS' := (w_X11_begins a0 q_ocean q_ocean_depths q_found q_found_books q_search q_found_books_cells q_found_books_lows q_found_books_highs q_found_books_tos q_found_books_froms q_search_times q_text q_trees q_images q_stories q_signs q_calendar q_draft q_ocean_figures q_ocean_times q_found_sheets q_found_known q_found_weights r_search_times cA s_yearOfNow s_ocean_pace s_ocean_fade s_ocean_depths s_found_dugMarshes s_found_kept s_found_books_count s_found_books_cells s_found_books_lows s_found_books_highs s_found_books_tos s_found_books_froms times_8)) (WR := [(a0, .inr (11, [.ref q_text, .ref q_ocean, .ref q_trees, .ref q_found, .ref q_images, .ref q_search, .ref q_stories, .ref q_signs, .ref q_calendar, .ref q_draft, .int s_yearOfNow])), (q_found, .inr (2, [.ref q_found_books, .ref q_found_sheets, .ref q_found_known, .ref q_found_weights, .int s_found_dugMarshes, .int s_found_kept]))]) rfl rfl rfl rfl (by decide) (by decide) 5 5 rfl rfl rfl hl.1 rfl (st' := [.int r_10]) rfl (Nat.le_of_ble_eq_true rfl) ⟨Nat.zero_le _, Nat.zero_le _⟩ dX11_begins_49 (fun H locs hP hD hS => ?_)
      obtain ⟨rfl, rfl⟩ := pe2 hf
      exact m_iret hx hb hr hlocks hP hS dX11_begins_52
    have hf := pbr_t c_7 hf
    refine lv_bipush (v := (-9 : Int32)) hx hb dX11_begins_33 (by decide) ?_
    obtain ⟨rfl, rfl⟩ := pe2 hf
    exact m_iret hx hb hr hlocks hP hS dX11_begins_35
  have hf := pbr_t c_6 hf
  refine lv_iconst (v := (-1 : Int32)) hx hb dX11_begins_18 (by decide) ?_
  obtain ⟨rfl, rfl⟩ := pe2 hf
  exact m_iret hx hb hr hlocks hP hS dX11_begins_19
