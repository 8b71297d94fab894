/-! ===== OrphanWave.calendar()I ===== -/
abbrev rm_X11_calendar : Room := { frames := 4, cells := 0, slots := 0, locals := 90 }
abbrev wx_X11_calendar (a0 : Nat) (q_draft : Nat) (q_text : Nat) (q_text_bytes : Nat) (q_draft_months : Nat) (q_draft_lengths : Nat) (q_ocean : Nat) (q_trees : Nat) (q_found : Nat) (q_images : Nat) (q_search : Nat) (q_stories : Nat) (q_signs : Nat) (q_calendar : Nat) (r_draft_lengths : Nat → Nat) (cA : Nat → ClassId) (s_calendar : Nat) (s_draft : Nat) (s_yearOfNow : Int32) (s_draft_years : Int32) (s_text_length : Int32) (s_text_bytes : Nat → Int32) (s_draft_months : Nat → Int32) (s_draft_lengths : Nat → Nat → Int32) : va_W := [(a0, .inr (11, [.ref q_text, .ref q_ocean, .ref q_trees, .ref q_found, .ref q_images, .ref q_search, .ref q_stories, .ref q_signs, .ref s_calendar, .ref s_draft, .int s_yearOfNow])), (q_draft, .inr (1, [.ref q_draft_lengths, .ref q_draft_months, .int s_draft_years])), (q_text, .inr (9, [.ref q_text_bytes, .int s_text_length])), (q_text_bytes, .inl (cA 0, 400, .inl s_text_bytes)), (q_draft_months, .inl (cA 1, 8, .inl s_draft_months)), (q_draft_lengths, .inl (cA 5, 8, .inr (.inr (.inr (.inr (gro 8 r_draft_lengths))))))]
abbrev w_X11_calendar (a0 : Nat) (q_draft : Nat) (q_text : Nat) (q_text_bytes : Nat) (q_draft_months : Nat) (q_draft_lengths : Nat) (q_ocean : Nat) (q_trees : Nat) (q_found : Nat) (q_images : Nat) (q_search : Nat) (q_stories : Nat) (q_signs : Nat) (q_calendar : Nat) (r_draft_lengths : Nat → Nat) (cA : Nat → ClassId) (s_calendar : Nat) (s_draft : Nat) (s_yearOfNow : Int32) (s_draft_years : Int32) (s_text_length : Int32) (s_text_bytes : Nat → Int32) (s_draft_months : Nat → Int32) (s_draft_lengths : Nat → Nat → Int32) : va_W := [(a0, .inr (11, [.ref q_text, .ref q_ocean, .ref q_trees, .ref q_found, .ref q_images, .ref q_search, .ref q_stories, .ref q_signs, .ref s_calendar, .ref s_draft, .int s_yearOfNow])), (q_draft, .inr (1, [.ref q_draft_lengths, .ref q_draft_months, .int s_draft_years])), (q_text, .inr (9, [.ref q_text_bytes, .int s_text_length])), (q_text_bytes, .inl (cA 0, 400, .inl s_text_bytes)), (q_draft_months, .inl (cA 1, 8, .inl s_draft_months)), (q_draft_lengths, .inl (cA 5, 8, .inr (.inr (.inr (.inr (gro 8 r_draft_lengths))))))] ++ grw 8 r_draft_lengths (cA 1) 13 s_draft_lengths
theorem hn_X11_calendar_X11 : ∀ w ∈ u_ws RX11 TX11 11, w ∈ wsX11_calendar := by decide +kernel
theorem hn_X11_calendar_X1 : ∀ w ∈ u_ws RX1 TX1 3, w ∈ wsX11_calendar := by decide +kernel
theorem hw_X11_calendar_f77 : Cond.fieldLink RX11 77 "OrphanWave" "draft" "LOrphanWave$Calendar;" ∈ wsX11_calendar := by decide +kernel
theorem hw_X11_calendar_f12 : Cond.fieldLink RX11 12 "OrphanWave" "text" "LOrphanWave$Text;" ∈ wsX11_calendar := by decide +kernel
theorem hw_X11_calendar_f73 : Cond.fieldLink RX11 73 "OrphanWave" "calendar" "LOrphanWave$Calendar;" ∈ wsX11_calendar := by decide +kernel

def f_X11_calendar (q_calendar : Nat) (q_draft : Nat) (s_draft_years : Int32) (s_text_length : Int32) (s_text_bytes : Nat → Int32) (s_draft_months : Nat → Int32) (s_draft_lengths : Nat → Nat → Int32) : Option ((Int32) × (Nat) × (Nat) × (Int32) × (Int32) × (Nat → Int32) × (Nat → Nat → Int32)) :=
  pcl (f_X1_become s_draft_years s_text_length s_text_bytes s_draft_months s_draft_lengths) (fun (r_1, years_2, months_3, lengths_4) => (
  pbr (r_1 = (-1 : Int32))
    (pcl (f_X9_empty s_text_length) (fun (r_7, length_8) => (
    some (years_2, q_draft, q_calendar, years_2, length_8, months_3, lengths_4))))
    (some (((-10 : Int32) - r_1), q_calendar, q_draft, years_2, s_text_length, months_3, lengths_4))))

set_option maxRecDepth 100000 in
set_option maxHeartbeats 4000000 in
theorem ct_X11_calendar (l : Launch) (D : va_G) (cA : Nat → ClassId) (a0 : Nat) (q_draft : Nat) (q_text : Nat) (q_text_bytes : Nat) (q_draft_months : Nat) (q_draft_lengths : Nat) (q_ocean : Nat) (q_trees : Nat) (q_found : Nat) (q_images : Nat) (q_search : Nat) (q_stories : Nat) (q_signs : Nat) (q_calendar : Nat) (r_draft_lengths : Nat → Nat) (s_yearOfNow : Int32) (s_draft_years : Int32) (s_text_length : Int32) (s_text_bytes : Nat → Int32) (s_draft_months : Nat → Int32) (s_draft_lengths : Nat → Nat → Int32) (o_r : Int32) (o_calendar : Nat) (o_draft : Nat) (o_draft_years : Int32) (o_text_length : Int32) (o_draft_months : Nat → Int32) (o_draft_lengths : Nat → Nat → Int32) (hf : f_X11_calendar q_calendar q_draft s_draft_years s_text_length s_text_bytes s_draft_months s_draft_lengths = some (o_r, o_calendar, o_draft, o_draft_years, o_text_length, o_draft_months, o_draft_lengths)) : CT l yX11_calendar wsX11_calendar rm_X11_calendar D cA [.ref a0] (w_X11_calendar a0 q_draft q_text q_text_bytes q_draft_months q_draft_lengths q_ocean q_trees q_found q_images q_search q_stories q_signs q_calendar r_draft_lengths cA q_calendar q_draft s_yearOfNow s_draft_years s_text_length s_text_bytes s_draft_months s_draft_lengths) (w_X11_calendar a0 q_draft q_text q_text_bytes q_draft_months q_draft_lengths q_ocean q_trees q_found q_images q_search q_stories q_signs q_calendar r_draft_lengths cA o_calendar o_draft s_yearOfNow o_draft_years o_text_length s_text_bytes o_draft_months o_draft_lengths) (some (.int o_r)) := by
  refine CT.ofW (cc := cX11_calendar) (maxL := 3) (ret := (some .int)) (by decide +kernel) rfl (Nat.le_of_ble_eq_true rfl) ?_
  intro p e s m below meth c A C0 hA hP hD ls hl
  have C0 : MX p s m [.ref a0].toArray meth c cX11_calendar 3 wsX11_calendar RX11 (some .int) D cA := C0
  have hl : lv_has ls 3 [(0, .ref a0)] := hl
  obtain ⟨hx, hb, hml, hown, hts, hr, hlocks, hX⟩ := id C0
  have hK := hX.1
  have hN := hX.2
  have hS : va_S A s.heap s.heap [] := va_S.rf
  unfold f_X11_calendar at hf
  refine lv_aload_n hx hb dX11_calendar_0 rfl (lv_at hl 0 rfl) ?_
  refine va_get (D := D) (ci := 11) (v := .ref q_draft) (C := RX11) (T := TX11) (N := 11) hx hb hts hn_X11_calendar_X11 hown hK hP 0 rfl rfl 9 (by decide) (hts _ hw_X11_calendar_f77) (fun _ h9 => h9) rfl dX11_calendar_1 ?_
  refine lv_aload_n hx hb dX11_calendar_4 rfl (lv_at hl 0 rfl) ?_
  refine va_get (D := D) (ci := 11) (v := .ref q_text) (C := RX11) (T := TX11) (N := 11) hx hb hts hn_X11_calendar_X11 hown hK hP 0 rfl rfl 0 (by decide) (hts _ hw_X11_calendar_f12) (fun _ h9 => h9) rfl dX11_calendar_5 ?_
  obtain ⟨⟨r_1, years_2, months_3, lengths_4⟩, hc_5, hf⟩ := pcl_e hf
  refine m_callV2 (As := [.ref q_text]) (rest := []) ⟨hx, hb, hml, hown, hts⟩ hX (ct_X1_become l D cA q_draft q_text q_text_bytes q_draft_months q_draft_lengths r_draft_lengths s_draft_years s_text_length s_text_bytes s_draft_months s_draft_lengths r_1 years_2 months_3 lengths_4 hc_5) (cwV 1 hts gX11_calendar_X1_become rfl rfl rfl (by decide +kernel) ⟨Nat.le_of_ble_eq_true rfl, Nat.le_of_ble_eq_true rfl⟩) hP hD hS hA [1, 2, 3, 4, 5, 6, 7, 8, 9, 10, 11, 12, 13] [0] 14 (by decide) rfl rfl (WS' := (w_X11_calendar a0 q_draft q_text q_text_bytes q_draft_months q_draft_lengths q_ocean q_trees q_found q_images q_search q_stories q_signs q_calendar r_draft_lengths cA q_calendar q_draft s_yearOfNow years_2 s_text_length s_text_bytes months_3 lengths_4)) (WR := [(a0, .inr (11, [.ref q_text, .ref q_ocean, .ref q_trees, .ref q_found, .ref q_images, .ref q_search, .ref q_stories, .ref q_signs, .ref q_calendar, .ref q_draft, .int s_yearOfNow]))]) rfl rfl rfl rfl (by decide) (by decide) 1 1 rfl rfl rfl hl.1 rfl (st' := [.int r_1]) rfl (Nat.le_of_ble_eq_true rfl) ⟨Nat.zero_le _, Nat.zero_le _⟩ dX11_calendar_8 (fun H locs hP hD hS => ?_)
  refine lv_istore_n (lv' := [(1, .int r_1), (0, .ref a0)]) hx hb dX11_calendar_11 rfl hl (by decide) rfl (fun ls hl => ?_)
  refine lv_iload_n hx hb dX11_calendar_12 rfl (lv_at hl 0 rfl) ?_
  refine lv_iconst (v := (-1 : Int32)) hx hb dX11_calendar_13 (by decide) ?_
  refine lv_icmp_eq (tgt := 22) hx hb dX11_calendar_14 (by decide) (fun c_6 => ?_) (fun c_6 => ?_)
  · have hf := pbr_t c_6 hf
    refine lv_aload_n hx hb dX11_calendar_22 rfl (lv_at hl 1 rfl) ?_
    refine va_get (D := D) (ci := 11) (v := .ref q_draft) (C := RX11) (T := TX11) (N := 11) hx hb hts hn_X11_calendar_X11 hown hK hP 0 rfl rfl 9 (by decide) (hts _ hw_X11_calendar_f77) (fun _ h9 => h9) rfl dX11_calendar_23 ?_
    refine lv_astore_n (lv' := [(2, .ref q_draft), (1, .int r_1), (0, .ref a0)]) hx hb dX11_calendar_26 rfl hl (by decide) rfl (fun ls hl => ?_)
    refine lv_aload_n hx hb dX11_calendar_27 rfl (lv_at hl 2 rfl) ?_
    refine lv_aload_n hx hb dX11_calendar_28 rfl (lv_at hl 2 rfl) ?_
    refine va_get (D := D) (ci := 11) (v := .ref q_calendar) (C := RX11) (T := TX11) (N := 11) hx hb hts hn_X11_calendar_X11 hown hK hP 0 rfl rfl 8 (by decide) (hts _ hw_X11_calendar_f73) (fun _ h9 => h9) rfl dX11_calendar_29 ?_
    refine va_put (D := D) (ci := 11) (v := .ref q_calendar) (ty := .object "OrphanWave$Calendar") (C := RX11) (T := TX11) (N := 11) hx hb hts hn_X11_calendar_X11 tyX11 tyX11_ok nmX11 hown hK hP hD hS 0 rfl rfl 9 (by decide) (hts _ hw_X11_calendar_f77) (fun _ h9 => h9) rfl (by decide +kernel) rfl rfl (Nat.le_of_ble_eq_true rfl) dX11_calendar_32 (fun H locs hP hD hS => ?_)
    have hP : va_P D vwCl (w_X11_calendar a0 q_draft q_text q_text_bytes q_draft_months q_draft_lengths q_ocean q_trees q_found q_images q_search q_stories q_signs q_calendar r_draft_lengths cA q_calendar q_calendar s_yearOfNow years_2 s_text_length s_text_bytes months_3 lengths_4) H := hP
    have hD : va_D A (w_X11_calendar a0 q_draft q_text q_text_bytes q_draft_months q_draft_lengths q_ocean q_trees q_found q_images q_search q_stories q_signs q_calendar r_draft_lengths cA q_calendar q_calendar s_yearOfNow years_2 s_text_length s_text_bytes months_3 lengths_4) := hD
    refine lv_aload_n hx hb dX11_calendar_35 rfl (lv_at hl 2 rfl) ?_
    refine lv_aload_n hx hb dX11_calendar_36 rfl (lv_at hl 0 rfl) ?_
    refine va_put (D := D) (ci := 11) (v := .ref q_draft) (ty := .object "OrphanWave$Calendar") (C := RX11) (T := TX11) (N := 11) hx hb hts hn_X11_calendar_X11 tyX11 tyX11_ok nmX11 hown hK hP hD hS 0 rfl rfl 8 (by decide) (hts _ hw_X11_calendar_f73) (fun _ h9 => h9) rfl (by decide +kernel) rfl rfl (Nat.le_of_ble_eq_true rfl) dX11_calendar_37 (fun H locs hP hD hS => ?_)
    have hP : va_P D vwCl (w_X11_calendar a0 q_draft q_text q_text_bytes q_draft_months q_draft_lengths q_ocean q_trees q_found q_images q_search q_stories q_signs q_calendar r_draft_lengths cA q_draft q_calendar s_yearOfNow years_2 s_text_length s_text_bytes months_3 lengths_4) H := hP
    have hD : va_D A (w_X11_calendar a0 q_draft q_text q_text_bytes q_draft_months q_draft_lengths q_ocean q_trees q_found q_images q_search q_stories q_signs q_calendar r_draft_lengths cA q_draft q_calendar s_yearOfNow years_2 s_text_length s_text_bytes months_3 lengths_4) := hD
    refine lv_aload_n hx hb dX11_calendar_40 rfl (lv_at hl 2 rfl) ?_
    refine va_get (D := D) (ci := 11) (v := .ref q_text) (C := RX11) (T := TX11) (N := 11) hx hb hts hn_X11_calendar_X11 hown hK hP 0 rfl rfl 0 (by decide) (hts _ hw_X11_calendar_f12) (fun _ h9 => h9) rfl dX11_calendar_41 ?_
    obtain ⟨⟨r_7, length_8⟩, hc_9, hf⟩ := pcl_e hf
    refine m_callV2 (As := []) (rest := []) ⟨hx, hb, hml, hown, hts⟩ hX (ct_X9_empty l D cA q_text q_text_bytes s_text_length r_7 length_8 hc_9) (cwV 0 hts gX11_calendar_X9_empty rfl rfl rfl (by decide +kernel) ⟨Nat.le_of_ble_eq_true rfl, Nat.le_of_ble_eq_true rfl⟩) hP hD hS hA [2] [0, 1, 3, 4, 5, 6, 7, 8, 9, 10, 11, 12, 13] 14 (by decide) rfl rfl (WS' := (w_X11_calendar a0 q_draft q_text q_text_bytes q_draft_months q_draft_lengths q_ocean q_trees q_found q_images q_search q_stories q_signs q_calendar r_draft_lengths cA q_draft q_calendar s_yearOfNow years_2 length_8 s_text_bytes months_3 lengths_4)) (WR := [(a0, .inr (11, [.ref q_text, .ref q_ocean, .ref q_trees, .ref q_found, .ref q_images, .ref q_search, .ref q_stories, .ref q_signs, .ref q_draft, .ref q_calendar, .int s_yearOfNow])), (q_draft, .inr (1, [.ref q_draft_lengths, .ref q_draft_months, .int years_2])), (q_text_bytes, .inl (cA 0, 400, .inl s_text_bytes)), (q_draft_months, .inl (cA 1, 8, .inl months_3)), (q_draft_lengths, .inl (cA 5, 8, .inr (.inr (.inr (.inr (gro 8 r_draft_lengths))))))] ++ grw 8 r_draft_lengths (cA 1) 13 lengths_4) rfl rfl rfl rfl (by decide) (by decide) 2 9 rfl rfl rfl hl.1 rfl (st' := [.int r_7]) rfl (Nat.le_of_ble_eq_true rfl) ⟨Nat.zero_le _, Nat.zero_le _⟩ dX11_calendar_44 (fun H locs hP hD hS => ?_)
    refine lv_pop hx hb dX11_calendar_47 rfl ?_
    refine lv_aload_n hx hb dX11_calendar_48 rfl (lv_at hl 2 rfl) ?_
    refine va_get (D := D) (ci := 11) (v := .ref q_draft) (C := RX11) (T := TX11) (N := 11) hx hb hts hn_X11_calendar_X11 hown hK hP 0 rfl rfl 8 (by decide) (hts _ hw_X11_calendar_f73) (fun _ h9 => h9) rfl dX11_calendar_49 ?_
    refine va_getN (D := D) (ci := 1) (v := .int years_2) (C := RX1) (T := TX1) (N := 3) hx hb hts hn_X11_calendar_X1 hown hK hP 1 rfl rfl 2 (by decide) (va_Nw.use rfl (hN _ nw_X11_180)) (fun _ h9 => h9) rfl dX11_calendar_52 ?_
    obtain ⟨rfl, rfl, rfl, rfl, rfl, rfl, rfl⟩ := pe7 hf
    exact m_iret hx hb hr hlocks hP hS dX11_calendar_55
  have hf := pbr_f c_6 hf
  refine lv_bipush (v := (-10 : Int32)) hx hb dX11_calendar_17 (by decide) ?_
  refine lv_iload_n hx hb dX11_calendar_19 rfl (lv_at hl 0 rfl) ?_
  refine lv_isub hx hb dX11_calendar_20 ?_
  obtain ⟨rfl, rfl, rfl, rfl, rfl, rfl, rfl⟩ := pe7 hf
  exact m_iret hx hb hr hlocks hP hS dX11_calendar_21

/-! ===== OrphanWave.clock(IIII)I ===== -/
abbrev rm_X11_clock : Room := { frames := 2, cells := 0, slots := 0, locals := 49 }
abbrev wx_X11_clock (a0 : Nat) (q_calendar : Nat) (q_calendar_months : Nat) (q_calendar_lengths : Nat) (q_text : Nat) (q_ocean : Nat) (q_trees : Nat) (q_found : Nat) (q_images : Nat) (q_search : Nat) (q_stories : Nat) (q_signs : Nat) (q_draft : Nat) (r_calendar_lengths : Nat → Nat) (cA : Nat → ClassId) (s_yearOfNow : Int32) (s_calendar_years : Int32) (s_calendar_months : Nat → Int32) (s_calendar_lengths : Nat → Nat → Int32) : va_W := [(a0, .inr (11, [.ref q_text, .ref q_ocean, .ref q_trees, .ref q_found, .ref q_images, .ref q_search, .ref q_stories, .ref q_signs, .ref q_calendar, .ref q_draft, .int s_yearOfNow])), (q_calendar, .inr (1, [.ref q_calendar_lengths, .ref q_calendar_months, .int s_calendar_years])), (q_calendar_months, .inl (cA 1, 8, .inl s_calendar_months)), (q_calendar_lengths, .inl (cA 5, 8, .inr (.inr (.inr (.inr (gro 8 r_calendar_lengths))))))]
abbrev w_X11_clock (a0 : Nat) (q_calendar : Nat) (q_calendar_months : Nat) (q_calendar_lengths : Nat) (q_text : Nat) (q_ocean : Nat) (q_trees : Nat) (q_found : Nat) (q_images : Nat) (q_search : Nat) (q_stories : Nat) (q_signs : Nat) (q_draft : Nat) (r_calendar_lengths : Nat → Nat) (cA : Nat → ClassId) (s_yearOfNow : Int32) (s_calendar_years : Int32) (s_calendar_months : Nat → Int32) (s_calendar_lengths : Nat → Nat → Int32) : va_W := [(a0, .inr (11, [.ref q_text, .ref q_ocean, .ref q_trees, .ref q_found, .ref q_images, .ref q_search, .ref q_stories, .ref q_signs, .ref q_calendar, .ref q_draft, .int s_yearOfNow])), (q_calendar, .inr (1, [.ref q_calendar_lengths, .ref q_calendar_months, .int s_calendar_years])), (q_calendar_months, .inl (cA 1, 8, .inl s_calendar_months)), (q_calendar_lengths, .inl (cA 5, 8, .inr (.inr (.inr (.inr (gro 8 r_calendar_lengths))))))] ++ grw 8 r_calendar_lengths (cA 1) 13 s_calendar_lengths
theorem hn_X11_clock_X11 : ∀ w ∈ u_ws RX11 TX11 11, w ∈ wsX11_clock := by decide +kernel
theorem hw_X11_clock_f73 : Cond.fieldLink RX11 73 "OrphanWave" "calendar" "LOrphanWave$Calendar;" ∈ wsX11_clock := by decide +kernel
theorem hw_X11_clock_c163 : Cond.constant RX11 163 (-1000000) ∈ wsX11_clock := by decide +kernel

def f_X11_clock (x1 : Int32) (x2 : Int32) (x3 : Int32) (x4 : Int32) (s_calendar_years : Int32) (s_calendar_months : Nat → Int32) (s_calendar_lengths : Nat → Nat → Int32) : Option ((Int32)) :=
  pcl (f_X1_hasDay x1 x2 x3 s_calendar_years s_calendar_months s_calendar_lengths) (fun r_1 => (
  pbr (r_1 = 0)
    (some ((-1000000 : Int32)))
    (pcl (f_X11_within x4 (0 : Int32) (11 : Int32)) (fun r_4 => (
    pbr (r_4 = 0)
      (some ((-1000000 : Int32)))
      (pcl (f_X1_daysAhead x1 x2 x3 s_calendar_months s_calendar_lengths) (fun r_7 => (
      some ((((r_7 * (1440 : Int32)) + (x4 * (120 : Int32))) - (60 : Int32)))))))))))

set_option maxRecDepth 100000 in
set_option maxHeartbeats 4000000 in
theorem ct_X11_clock (l : Launch) (D : va_G) (cA : Nat → ClassId) (x1 : Int32) (x2 : Int32) (x3 : Int32) (x4 : Int32) (a0 : Nat) (q_calendar : Nat) (q_calendar_months : Nat) (q_calendar_lengths : Nat) (q_text : Nat) (q_ocean : Nat) (q_trees : Nat) (q_found : Nat) (q_images : Nat) (q_search : Nat) (q_stories : Nat) (q_signs : Nat) (q_draft : Nat) (r_calendar_lengths : Nat → Nat) (s_yearOfNow : Int32) (s_calendar_years : Int32) (s_calendar_months : Nat → Int32) (s_calendar_lengths : Nat → Nat → Int32) (o_r : Int32) (hf : f_X11_clock x1 x2 x3 x4 s_calendar_years s_calendar_months s_calendar_lengths = some o_r) : CT l yX11_clock wsX11_clock rm_X11_clock D cA [.ref a0, .int x1, .int x2, .int x3, .int x4] (w_X11_clock a0 q_calendar q_calendar_months q_calendar_lengths q_text q_ocean q_trees q_found q_images q_search q_stories q_signs q_draft r_calendar_lengths cA s_yearOfNow s_calendar_years s_calendar_months s_calendar_lengths) (w_X11_clock a0 q_calendar q_calendar_months q_calendar_lengths q_text q_ocean q_trees q_found q_images q_search q_stories q_signs q_draft r_calendar_lengths cA s_yearOfNow s_calendar_years s_calendar_months s_calendar_lengths) (some (.int o_r)) := by
  refine CT.ofW (cc := cX11_clock) (maxL := 5) (ret := (some .int)) (by decide +kernel) rfl (Nat.le_of_ble_eq_true rfl) ?_
  intro p e s m below meth c A C0 hA hP hD ls hl
  have C0 : MX p s m [.ref a0, .int x1, .int x2, .int x3, .int x4].toArray meth c cX11_clock 5 wsX11_clock RX11 (some .int) D cA := C0
  have hl : lv_has ls 5 [(0, .ref a0), (1, .int x1), (2, .int x2), (3, .int x3), (4, .int x4)] := hl
  obtain ⟨hx, hb, hml, hown, hts, hr, hlocks, hX⟩ := id C0
  have hK := hX.1
  have hN := hX.2
  have hS : va_S A s.heap s.heap [] := va_S.rf
  unfold f_X11_clock at hf
  refine lv_aload_n hx hb dX11_clock_0 rfl (lv_at hl 0 rfl) ?_
  refine va_get (D := D) (ci := 11) (v := .ref q_calendar) (C := RX11) (T := TX11) (N := 11) hx hb hts hn_X11_clock_X11 hown hK hP 0 rfl rfl 8 (by decide) (hts _ hw_X11_clock_f73) (fun _ h9 => h9) rfl dX11_clock_1 ?_
  refine lv_iload_n hx hb dX11_clock_4 rfl (lv_at hl 1 rfl) ?_
  refine lv_iload_n hx hb dX11_clock_5 rfl (lv_at hl 2 rfl) ?_
  refine lv_iload_n hx hb dX11_clock_6 rfl (lv_at hl 3 rfl) ?_
  obtain ⟨r_1, hc_2, hf⟩ := pcl_e hf
  refine m_callV2 (As := [.int x1, .int x2, .int x3]) (rest := []) ⟨hx, hb, hml, hown, hts⟩ hX (ct_X1_hasDay l D cA x1 x2 x3 q_calendar q_calendar_months q_calendar_lengths r_calendar_lengths s_calendar_years s_calendar_months s_calendar_lengths r_1 hc_2) (cwV 3 hts gX11_clock_X1_hasDay rfl rfl rfl (by decide +kernel) ⟨Nat.le_of_ble_eq_true rfl, Nat.le_of_ble_eq_true rfl⟩) hP hD hS hA [1, 2, 3, 4, 5, 6, 7, 8, 9, 10, 11] [0] 12 (by decide) rfl rfl (WS' := (w_X11_clock a0 q_calendar q_calendar_months q_calendar_lengths q_text q_ocean q_trees q_found q_images q_search q_stories q_signs q_draft r_calendar_lengths cA s_yearOfNow s_calendar_years s_calendar_months s_calendar_lengths)) (WR := [(a0, .inr (11, [.ref q_text, .ref q_ocean, .ref q_trees, .ref q_found, .ref q_images, .ref q_search, .ref q_stories, .ref q_signs, .ref q_calendar, .ref q_draft, .int s_yearOfNow]))]) rfl rfl rfl rfl (by decide) (by decide) 1 1 rfl rfl rfl hl.1 rfl (st' := [.int r_1]) rfl (Nat.le_of_ble_eq_true rfl) ⟨Nat.zero_le _, Nat.zero_le _⟩ dX11_clock_7 (fun H locs hP hD hS => ?_)
  refine lv_if_eq (tgt := 24) hx hb dX11_clock_10 (by decide) (fun c_3 => ?_) (fun c_3 => ?_)
  · have hf := pbr_t c_3 hf
    refine lv_ldc (v := (-1000000 : Int32)) hx hb hown (hts _ hw_X11_clock_c163) dX11_clock_24 ?_
    obtain rfl := pe1 hf
    exact m_iret hx hb hr hlocks hP hS dX11_clock_26
  have hf := pbr_f c_3 hf
  refine lv_iload hx hb dX11_clock_13 (lv_at hl 4 rfl) ?_
  refine lv_iconst (v := (0 : Int32)) hx hb dX11_clock_15 (by decide) ?_
  refine lv_bipush (v := (11 : Int32)) hx hb dX11_clock_16 (by decide) ?_
  obtain ⟨r_4, hc_5, hf⟩ := pcl_e hf
  refine m_callS2 (As := [.int x4, .int (0 : Int32), .int (11 : Int32)]) (rest := []) ⟨hx, hb, hml, hown, hts⟩ hX (ct_X11_within l D cA x4 (0 : Int32) (11 : Int32) r_4 hc_5) (va_cwS 3 hts gX11_clock_X11_within rfl rfl rfl (by decide +kernel) ⟨Nat.le_of_ble_eq_true rfl, Nat.le_of_ble_eq_true rfl⟩) hP hD hS hA [] [0, 1, 2, 3, 4, 5, 6, 7, 8, 9, 10, 11] 12 (by decide) rfl rfl (WS' := (w_X11_clock a0 q_calendar q_calendar_months q_calendar_lengths q_text q_ocean q_trees q_found q_images q_search q_stories q_signs q_draft r_calendar_lengths cA s_yearOfNow s_calendar_years s_calendar_months s_calendar_lengths)) (WR := [(a0, .inr (11, [.ref q_text, .ref q_ocean, .ref q_trees, .ref q_found, .ref q_images, .ref q_search, .ref q_stories, .ref q_signs, .ref q_calendar, .ref q_draft, .int s_yearOfNow])), (q_calendar, .inr (1, [.ref q_calendar_lengths, .ref q_calendar_months, .int s_calendar_years])), (q_calendar_months, .inl (cA 1, 8, .inl s_calendar_months)), (q_calendar_lengths, .inl (cA 5, 8, .inr (.inr (.inr (.inr (gro 8 r_calendar_lengths))))))] ++ grw 8 r_calendar_lengths (cA 1) 13 s_calendar_lengths) rfl rfl rfl rfl (by decide) (by decide) rfl hl.1 rfl (st' := [.int r_4]) rfl (Nat.le_of_ble_eq_true rfl) ⟨Nat.zero_le _, Nat.zero_le _⟩ dX11_clock_18 (fun H locs hP hD hS => ?_)
  refine lv_if_ne (tgt := 27) hx hb dX11_clock_21 (by decide) (fun c_6 => ?_) (fun c_6 => ?_)
  · have hf := pbr_f c_6 hf
    refine lv_aload_n hx hb dX11_clock_27 rfl (lv_at hl 0 rfl) ?_
    refine va_get (D := D) (ci := 11) (v := .ref q_calendar) (C := RX11) (T := TX11) (N := 11) hx hb hts hn_X11_clock_X11 hown hK hP 0 rfl rfl 8 (by decide) (hts _ hw_X11_clock_f73) (fun _ h9 => h9) rfl dX11_clock_28 ?_
    refine lv_iload_n hx hb dX11_clock_31 rfl (lv_at hl 1 rfl) ?_
    refine lv_iload_n hx hb dX11_clock_32 rfl (lv_at hl 2 rfl) ?_
    refine lv_iload_n hx hb dX11_clock_33 rfl (lv_at hl 3 rfl) ?_
    obtain ⟨r_7, hc_8, hf⟩ := pcl_e hf
    refine m_callV2 (As := [.int x1, .int x2, .int x3]) (rest := []) ⟨hx, hb, hml, hown, hts⟩ hX (ct_X1_daysAhead l D cA x1 x2 x3 q_calendar q_calendar_months q_calendar_lengths r_calendar_lengths s_calendar_years s_calendar_months s_calendar_lengths r_7 hc_8) (cwV 3 hts gX11_clock_X1_daysAhead rfl rfl rfl (by decide +kernel) ⟨Nat.le_of_ble_eq_true rfl, Nat.le_of_ble_eq_true rfl⟩) hP hD hS hA [1, 2, 3, 4, 5, 6, 7, 8, 9, 10, 11] [0] 12 (by decide) rfl rfl (WS' := (w_X11_clock a0 q_calendar q_calendar_months q_calendar_lengths q_text q_ocean q_trees q_found q_images q_search q_stories q_signs q_draft r_calendar_lengths cA s_yearOfNow s_calendar_years s_calendar_months s_calendar_lengths)) (WR := [(a0, .inr (11, [.ref q_text, .ref q_ocean, .ref q_trees, .ref q_found, .ref q_images, .ref q_search, .ref q_stories, .ref q_signs, .ref q_calendar, .ref q_draft, .int s_yearOfNow]))]) rfl rfl rfl rfl (by decide) (by decide) 1 1 rfl rfl rfl hl.1 rfl (st' := [.int r_7]) rfl (Nat.le_of_ble_eq_true rfl) ⟨Nat.zero_le _, Nat.zero_le _⟩ dX11_clock_34 (fun H locs hP hD hS => ?_)
    refine lv_sipush (v := (1440 : Int32)) hx hb dX11_clock_37 (by decide) ?_
    refine lv_imul hx hb dX11_clock_40 ?_
    refine lv_iload hx hb dX11_clock_41 (lv_at hl 4 rfl) ?_
    refine lv_bipush (v := (120 : Int32)) hx hb dX11_clock_43 (by decide) ?_
    refine lv_imul hx hb dX11_clock_45 ?_
    refine lv_iadd hx hb dX11_clock_46 ?_
    refine lv_bipush (v := (60 : Int32)) hx hb dX11_clock_47 (by decide) ?_
    refine lv_isub hx hb dX11_clock_49 ?_
    obtain rfl := pe1 hf
    exact m_iret hx hb hr hlocks hP hS dX11_clock_50
  have hf := pbr_t c_6 hf
  refine lv_ldc (v := (-1000000 : Int32)) hx hb hown (hts _ hw_X11_clock_c163) dX11_clock_24 ?_
  obtain rfl := pe1 hf
  exact m_iret hx hb hr hlocks hP hS dX11_clock_26

/-! ===== OrphanWave.told(II)I ===== -/
abbrev rm_X11_told : Room := { frames := 2, cells := 0, slots := 0, locals := 46 }
abbrev wx_X11_told (a0 : Nat) (q_calendar : Nat) (q_calendar_months : Nat) (q_calendar_lengths : Nat) (q_text : Nat) (q_ocean : Nat) (q_trees : Nat) (q_found : Nat) (q_images : Nat) (q_search : Nat) (q_stories : Nat) (q_signs : Nat) (q_draft : Nat) (r_calendar_lengths : Nat → Nat) (cA : Nat → ClassId) (s_yearOfNow : Int32) (s_calendar_years : Int32) (s_calendar_months : Nat → Int32) (s_calendar_lengths : Nat → Nat → Int32) : va_W := [(a0, .inr (11, [.ref q_text, .ref q_ocean, .ref q_trees, .ref q_found, .ref q_images, .ref q_search, .ref q_stories, .ref q_signs, .ref q_calendar, .ref q_draft, .int s_yearOfNow])), (q_calendar, .inr (1, [.ref q_calendar_lengths, .ref q_calendar_months, .int s_calendar_years])), (q_calendar_months, .inl (cA 1, 8, .inl s_calendar_months)), (q_calendar_lengths, .inl (cA 5, 8, .inr (.inr (.inr (.inr (gro 8 r_calendar_lengths))))))]
abbrev w_X11_told (a0 : Nat) (q_calendar : Nat) (q_calendar_months : Nat) (q_calendar_lengths : Nat) (q_text : Nat) (q_ocean : Nat) (q_trees : Nat) (q_found : Nat) (q_images : Nat) (q_search : Nat) (q_stories : Nat) (q_signs : Nat) (q_draft : Nat) (r_calendar_lengths : Nat → Nat) (cA : Nat → ClassId) (s_yearOfNow : Int32) (s_calendar_years : Int32) (s_calendar_months : Nat → Int32) (s_calendar_lengths : Nat → Nat → Int32) : va_W := [(a0, .inr (11, [.ref q_text, .ref q_ocean, .ref q_trees, .ref q_found, .ref q_images, .ref q_search, .ref q_stories, .ref q_signs, .ref q_calendar, .ref q_draft, .int s_yearOfNow])), (q_calendar, .inr (1, [.ref q_calendar_lengths, .ref q_calendar_months, .int s_calendar_years])), (q_calendar_months, .inl (cA 1, 8, .inl s_calendar_months)), (q_calendar_lengths, .inl (cA 5, 8, .inr (.inr (.inr (.inr (gro 8 r_calendar_lengths))))))] ++ grw 8 r_calendar_lengths (cA 1) 13 s_calendar_lengths
theorem hn_X11_told_X11 : ∀ w ∈ u_ws RX11 TX11 11, w ∈ wsX11_told := by decide +kernel
theorem hw_X11_told_c163 : Cond.constant RX11 163 (-1000000) ∈ wsX11_told := by decide +kernel
theorem hw_X11_told_c189 : Cond.constantLong RX11 189 (60) ∈ wsX11_told := by decide +kernel
theorem hw_X11_told_c191 : Cond.constantLong RX11 191 (1440) ∈ wsX11_told := by decide +kernel
theorem hw_X11_told_f73 : Cond.fieldLink RX11 73 "OrphanWave" "calendar" "LOrphanWave$Calendar;" ∈ wsX11_told := by decide +kernel
theorem hw_X11_told_c196 : Cond.constantLong RX11 196 (120) ∈ wsX11_told := by decide +kernel

def f_X11_told (x1 : Int32) (x2 : Int32) (s_calendar_years : Int32) (s_calendar_months : Nat → Int32) (s_calendar_lengths : Nat → Nat → Int32) : Option ((Int32)) :=
  pcl (f_X11_within x2 (0 : Int32) (3 : Int32)) (fun r_1 => (
  pbr (r_1 = 0)
    (some ((-1000000 : Int32)))
    (pbr ((-60 : Int32) ≤ x1)
      (plt ((x1.toInt64 + (60 : Int64)) : Int64) (fun x3_5 => (
      plt ((x3_5 / (1440 : Int64)) : Int64) (fun x5_6 => (
      pcl (f_X1_allDays s_calendar_years s_calendar_months s_calendar_lengths) (fun r_7 => (
      pbr ((lg_cmp x5_6 r_7.toInt64) < 0)
        (pbr (x2 = (3 : Int32))
          (some (((x3_5 - x3_5 / (1440 : Int64) * (1440 : Int64)) / (120 : Int64)).toInt32))
          (pcl (f_X1_partOfDay x5_6.toInt32 x2 s_calendar_years s_calendar_months s_calendar_lengths) (fun r_11 => (
          some (r_11)))))
        (some ((-1000000 : Int32))))))))))
      (some ((-1000000 : Int32))))))

set_option maxRecDepth 100000 in
set_option maxHeartbeats 4000000 in
theorem ct_X11_told (l : Launch) (D : va_G) (cA : Nat → ClassId) (x1 : Int32) (x2 : Int32) (a0 : Nat) (q_calendar : Nat) (q_calendar_months : Nat) (q_calendar_lengths : Nat) (q_text : Nat) (q_ocean : Nat) (q_trees : Nat) (q_found : Nat) (q_images : Nat) (q_search : Nat) (q_stories : Nat) (q_signs : Nat) (q_draft : Nat) (r_calendar_lengths : Nat → Nat) (s_yearOfNow : Int32) (s_calendar_years : Int32) (s_calendar_months : Nat → Int32) (s_calendar_lengths : Nat → Nat → Int32) (o_r : Int32) (hf : f_X11_told x1 x2 s_calendar_years s_calendar_months s_calendar_lengths = some o_r) : CT l yX11_told wsX11_told rm_X11_told D cA [.ref a0, .int x1, .int x2] (w_X11_told a0 q_calendar q_calendar_months q_calendar_lengths q_text q_ocean q_trees q_found q_images q_search q_stories q_signs q_draft r_calendar_lengths cA s_yearOfNow s_calendar_years s_calendar_months s_calendar_lengths) (w_X11_told a0 q_calendar q_calendar_months q_calendar_lengths q_text q_ocean q_trees q_found q_images q_search q_stories q_signs q_draft r_calendar_lengths cA s_yearOfNow s_calendar_years s_calendar_months s_calendar_lengths) (some (.int o_r)) := by
  refine CT.ofW (cc := cX11_told) (maxL := 7) (ret := (some .int)) (by decide +kernel) rfl (Nat.le_of_ble_eq_true rfl) ?_
  intro p e s m below meth c A C0 hA hP hD ls hl
  have C0 : MX p s m [.ref a0, .int x1, .int x2].toArray meth c cX11_told 7 wsX11_told RX11 (some .int) D cA := C0
  have hl : lv_has ls 7 [(0, .ref a0), (1, .int x1), (2, .int x2)] := hl
  obtain ⟨hx, hb, hml, hown, hts, hr, hlocks, hX⟩ := id C0
  have hK := hX.1
  have hN := hX.2
  have hS : va_S A s.heap s.heap [] := va_S.rf
  unfold f_X11_told at hf
  refine lv_iload_n hx hb dX11_told_0 rfl (lv_at hl 2 rfl) ?_
  refine lv_iconst (v := (0 : Int32)) hx hb dX11_told_1 (by decide) ?_
  refine lv_iconst (v := (3 : Int32)) hx hb dX11_told_2 (by decide) ?_
  obtain ⟨r_1, hc_2, hf⟩ := pcl_e hf
  refine m_callS2 (As := [.int x2, .int (0 : Int32), .int (3 : Int32)]) (rest := []) ⟨hx, hb, hml, hown, hts⟩ hX (ct_X11_within l D cA x2 (0 : Int32) (3 : Int32) r_1 hc_2) (va_cwS 3 hts gX11_told_X11_within rfl rfl rfl (by decide +kernel) ⟨Nat.le_of_ble_eq_true rfl, Nat.le_of_ble_eq_true rfl⟩) hP hD hS hA [] [0, 1, 2, 3, 4, 5, 6, 7, 8, 9, 10, 11] 12 (by decide) rfl rfl (WS' := (w_X11_told a0 q_calendar q_calendar_months q_calendar_lengths q_text q_ocean q_trees q_found q_images q_search q_stories q_signs q_draft r_calendar_lengths cA s_yearOfNow s_calendar_years s_calendar_months s_calendar_lengths)) (WR := [(a0, .inr (11, [.ref q_text, .ref q_ocean, .ref q_trees, .ref q_found, .ref q_images, .ref q_search, .ref q_stories, .ref q_signs, .ref q_calendar, .ref q_draft, .int s_yearOfNow])), (q_calendar, .inr (1, [.ref q_calendar_lengths, .ref q_calendar_months, .int s_calendar_years])), (q_calendar_months, .inl (cA 1, 8, .inl s_calendar_months)), (q_calendar_lengths, .inl (cA 5, 8, .inr (.inr (.inr (.inr (gro 8 r_calendar_lengths))))))] ++ grw 8 r_calendar_lengths (cA 1) 13 s_calendar_lengths) rfl rfl rfl rfl (by decide) (by decide) rfl hl.1 rfl (st' := [.int r_1]) rfl (Nat.le_of_ble_eq_true rfl) ⟨Nat.zero_le _, Nat.zero_le _⟩ dX11_told_3 (fun H locs hP hD hS => ?_)
  refine lv_if_eq (tgt := 15) hx hb dX11_told_6 (by decide) (fun c_3 => ?_) (fun c_3 => ?_)
  · have hf := pbr_t c_3 hf
    refine lv_ldc (v := (-1000000 : Int32)) hx hb hown (hts _ hw_X11_told_c163) dX11_told_15 ?_
    obtain rfl := pe1 hf
    exact m_iret hx hb hr hlocks hP hS dX11_told_17
  have hf := pbr_f c_3 hf
  refine lv_iload_n hx hb dX11_told_9 rfl (lv_at hl 1 rfl) ?_
  refine lv_bipush (v := (-60 : Int32)) hx hb dX11_told_10 (by decide) ?_
  refine lv_icmp_ge (tgt := 18) hx hb dX11_told_12 (by decide) (fun c_4 => ?_) (fun c_4 => ?_)
  · have hf := pbr_t c_4 hf
    refine lv_iload_n hx hb dX11_told_18 rfl (lv_at hl 1 rfl) ?_
    refine lv_i2l hx hb dX11_told_19 rfl ?_
    refine lv_ldc2 (v := (60 : Int64)) hx hb hown (hts _ hw_X11_told_c189) dX11_told_20 ?_
    refine lv_ladd hx hb dX11_told_23 ?_
    refine lv_topl (fun x3_5 ex3_5 => ?_)
    have hf := plt_e ex3_5 hf
    refine lv_lstore_n (lv' := [(3, .long x3_5), (0, .ref a0), (1, .int x1), (2, .int x2)]) hx hb dX11_told_24 rfl hl (by decide) rfl (fun ls hl => ?_)
    refine lv_lload_n hx hb dX11_told_25 rfl (lv_at hl 0 rfl) ?_
    refine lv_ldc2 (v := (1440 : Int64)) hx hb hown (hts _ hw_X11_told_c191) dX11_told_26 ?_
    refine lv_ldiv hx hb dX11_told_29 (by decide) ?_
    refine lv_topl (fun x5_6 ex5_6 => ?_)
    have hf := plt_e ex5_6 hf
    refine lv_lstore (lv' := [(5, .long x5_6), (3, .long x3_5), (0, .ref a0), (1, .int x1), (2, .int x2)]) hx hb dX11_told_30 hl (by decide) rfl (fun ls hl => ?_)
    refine lv_lload hx hb dX11_told_32 (lv_at hl 0 rfl) ?_
    refine lv_aload_n hx hb dX11_told_34 rfl (lv_at hl 2 rfl) ?_
    refine va_get (D := D) (ci := 11) (v := .ref q_calendar) (C := RX11) (T := TX11) (N := 11) hx hb hts hn_X11_told_X11 hown hK hP 0 rfl rfl 8 (by decide) (hts _ hw_X11_told_f73) (fun _ h9 => h9) rfl dX11_told_35 ?_
    obtain ⟨r_7, hc_8, hf⟩ := pcl_e hf
    refine m_callV2 (As := []) (rest := [.long x5_6]) ⟨hx, hb, hml, hown, hts⟩ hX (ct_X1_allDays l D cA q_calendar q_calendar_months q_calendar_lengths r_calendar_lengths s_calendar_years s_calendar_months s_calendar_lengths r_7 hc_8) (cwV 0 hts gX11_told_X1_allDays rfl rfl rfl (by decide +kernel) ⟨Nat.le_of_ble_eq_true rfl, Nat.le_of_ble_eq_true rfl⟩) hP hD hS hA [1, 2, 3, 4, 5, 6, 7, 8, 9, 10, 11] [0] 12 (by decide) rfl rfl (WS' := (w_X11_told a0 q_calendar q_calendar_months q_calendar_lengths q_text q_ocean q_trees q_found q_images q_search q_stories q_signs q_draft r_calendar_lengths cA s_yearOfNow s_calendar_years s_calendar_months s_calendar_lengths)) (WR := [(a0, .inr (11, [.ref q_text, .ref q_ocean, .ref q_trees, .ref q_found, .ref q_images, .ref q_search, .ref q_stories, .ref q_signs, .ref q_calendar, .ref q_draft, .int s_yearOfNow]))]) rfl rfl rfl rfl (by decide) (by decide) 1 1 rfl rfl rfl hl.1 rfl (st' := [.int r_7, .long x5_6]) rfl (Nat.le_of_ble_eq_true rfl) ⟨Nat.zero_le _, Nat.zero_le _⟩ dX11_told_38 (fun H locs hP hD hS => ?_)
    refine lv_i2l hx hb dX11_told_41 rfl ?_
    refine W.lcmp hx hb dX11_told_42 ?_
    refine lv_if_lt (tgt := 49) hx hb dX11_told_43 (by decide) (fun c_9 => ?_) (fun c_9 => ?_)
    · have hf := pbr_t c_9 hf
      refine lv_iload_n hx hb dX11_told_49 rfl (lv_at hl 4 rfl) ?_
      refine lv_iconst (v := (3 : Int32)) hx hb dX11_told_50 (by decide) ?_
      refine lv_icmp_ne (tgt := 65) hx hb dX11_told_51 (by decide) (fun c_10 => ?_) (fun c_10 => ?_)
      · have hf := pbr_f c_10 hf
        refine lv_aload_n hx hb dX11_told_65 rfl (lv_at hl 2 rfl) ?_
        refine va_get (D := D) (ci := 11) (v := .ref q_calendar) (C := RX11) (T := TX11) (N := 11) hx hb hts hn_X11_told_X11 hown hK hP 0 rfl rfl 8 (by decide) (hts _ hw_X11_told_f73) (fun _ h9 => h9) rfl dX11_told_66 ?_
        refine lv_lload hx hb dX11_told_69 (lv_at hl 0 rfl) ?_
        refine lv_l2i hx hb dX11_told_71 rfl ?_
        refine lv_iload_n hx hb dX11_told_72 rfl (lv_at hl 4 rfl) ?_
        obtain ⟨r_11, hc_12, hf⟩ := pcl_e hf
        refine m_callV2 (As := [.int x5_6.toInt32, .int x2]) (rest := []) ⟨hx, hb, hml, hown, hts⟩ hX (ct_X1_partOfDay l D cA x5_6.toInt32 x2 q_calendar q_calendar_months q_calendar_lengths r_calendar_lengths s_calendar_years s_calendar_months s_calendar_lengths r_11 hc_12) (cwV 2 hts gX11_told_X1_partOfDay rfl rfl rfl (by decide +kernel) ⟨Nat.le_of_ble_eq_true rfl, Nat.le_of_ble_eq_true rfl⟩) hP hD hS hA [1, 2, 3, 4, 5, 6, 7, 8, 9, 10, 11] [0] 12 (by decide) rfl rfl (WS' := (w_X11_told a0 q_calendar q_calendar_months q_calendar_lengths q_text q_ocean q_trees q_found q_images q_search q_stories q_signs q_draft r_calendar_lengths cA s_yearOfNow s_calendar_years s_calendar_months s_calendar_lengths)) (WR := [(a0, .inr (11, [.ref q_text, .ref q_ocean, .ref q_trees, .ref q_found, .ref q_images, .ref q_search, .ref q_stories, .ref q_signs, .ref q_calendar, .ref q_draft, .int s_yearOfNow]))]) rfl rfl rfl rfl (by decide) (by decide) 1 1 rfl rfl rfl hl.1 rfl (st' := [.int r_11]) rfl (Nat.le_of_ble_eq_true rfl) ⟨Nat.zero_le _, Nat.zero_le _⟩ dX11_told_73 (fun H locs hP hD hS => ?_)
        obtain rfl := pe1 hf
        exact m_iret hx hb hr hlocks hP hS dX11_told_76
      have hf := pbr_t c_10 hf
      refine lv_lload_n hx hb dX11_told_54 rfl (lv_at hl 1 rfl) ?_
      refine lv_ldc2 (v := (1440 : Int64)) hx hb hown (hts _ hw_X11_told_c191) dX11_told_55 ?_
      refine lv_lrem hx hb dX11_told_58 (by decide) ?_
      refine lv_ldc2 (v := (120 : Int64)) hx hb hown (hts _ hw_X11_told_c196) dX11_told_59 ?_
      refine lv_ldiv hx hb dX11_told_62 (by decide) ?_
      refine lv_l2i hx hb dX11_told_63 rfl ?_
      obtain rfl := pe1 hf
      exact m_iret hx hb hr hlocks hP hS dX11_told_64
    have hf := pbr_f c_9 hf
    refine lv_ldc (v := (-1000000 : Int32)) hx hb hown (hts _ hw_X11_told_c163) dX11_told_46 ?_
    obtain rfl := pe1 hf
    exact m_iret hx hb hr hlocks hP hS dX11_told_48
  have hf := pbr_f c_4 hf
  refine lv_ldc (v := (-1000000 : Int32)) hx hb hown (hts _ hw_X11_told_c163) dX11_told_15 ?_
  obtain rfl := pe1 hf
  exact m_iret hx hb hr hlocks hP hS dX11_told_17

/-! ===== OrphanWave.ring(I)I ===== -/
abbrev rm_X11_ring : Room := { frames := 2, cells := 0, slots := 0, locals := 42 }
abbrev w_X11_ring (a0 : Nat) (q_trees : Nat) (q_trees_livingRings : Nat) (q_text : Nat) (q_ocean : Nat) (q_found : Nat) (q_images : Nat) (q_search : Nat) (q_stories : Nat) (q_signs : Nat) (q_calendar : Nat) (q_draft : Nat) (q_trees_woodRings : Nat) (q_trees_woodCounts : Nat) (q_trees_ends : Nat) (cA : Nat → ClassId) (s_yearOfNow : Int32) (s_trees_livingCount : Int32) (s_trees_firstYear : Int32) (s_trees_livingRings : Nat → Int32) : va_W := [(a0, .inr (11, [.ref q_text, .ref q_ocean, .ref q_trees, .ref q_found, .ref q_images, .ref q_search, .ref q_stories, .ref q_signs, .ref q_calendar, .ref q_draft, .int s_yearOfNow])), (q_trees, .inr (10, [.ref q_trees_livingRings, .ref q_trees_woodRings, .ref q_trees_woodCounts, .ref q_trees_ends, .int s_trees_livingCount, .int s_trees_firstYear])), (q_trees_livingRings, .inl (cA 1, 60, .inl s_trees_livingRings))]
theorem hn_X11_ring_X11 : ∀ w ∈ u_ws RX11 TX11 11, w ∈ wsX11_ring := by decide +kernel
theorem hn_X11_ring_X10 : ∀ w ∈ u_ws RX10 TX10 6, w ∈ wsX11_ring := by decide +kernel
theorem hw_X11_ring_f26 : Cond.fieldLink RX11 26 "OrphanWave" "trees" "LOrphanWave$Trees;" ∈ wsX11_ring := by decide +kernel

def f_X11_ring (x1 : Int32) (s_trees_livingCount : Int32) (s_trees_livingRings : Nat → Int32) : Option ((Int32) × (Int32) × (Nat → Int32)) :=
  pcl (f_X11_isWidth x1) (fun r_1 => (
  pbr (r_1 = 0)
    (some ((-1 : Int32), s_trees_livingCount, s_trees_livingRings))
    (pbr (s_trees_livingCount < (60 : Int32))
      (pcl (f_X10_grow x1 s_trees_livingCount s_trees_livingRings) (fun (r_5, livingCount_6, livingRings_7) => (
      some (r_5, livingCount_6, livingRings_7))))
      (some ((-3 : Int32), s_trees_livingCount, s_trees_livingRings)))))

set_option maxRecDepth 100000 in
set_option maxHeartbeats 4000000 in
theorem ct_X11_ring (l : Launch) (D : va_G) (cA : Nat → ClassId) (x1 : Int32) (a0 : Nat) (q_trees : Nat) (q_trees_livingRings : Nat) (q_text : Nat) (q_ocean : Nat) (q_found : Nat) (q_images : Nat) (q_search : Nat) (q_stories : Nat) (q_signs : Nat) (q_calendar : Nat) (q_draft : Nat) (q_trees_woodRings : Nat) (q_trees_woodCounts : Nat) (q_trees_ends : Nat) (s_yearOfNow : Int32) (s_trees_livingCount : Int32) (s_trees_firstYear : Int32) (s_trees_livingRings : Nat → Int32) (o_r : Int32) (o_trees_livingCount : Int32) (o_trees_livingRings : Nat → Int32) (hf : f_X11_ring x1 s_trees_livingCount s_trees_livingRings = some (o_r, o_trees_livingCount, o_trees_livingRings)) : CT l yX11_ring wsX11_ring rm_X11_ring D cA [.ref a0, .int x1] (w_X11_ring a0 q_trees q_trees_livingRings q_text q_ocean q_found q_images q_search q_stories q_signs q_calendar q_draft q_trees_woodRings q_trees_woodCounts q_trees_ends cA s_yearOfNow s_trees_livingCount s_trees_firstYear s_trees_livingRings) (w_X11_ring a0 q_trees q_trees_livingRings q_text q_ocean q_found q_images q_search q_stories q_signs q_calendar q_draft q_trees_woodRings q_trees_woodCounts q_trees_ends cA s_yearOfNow o_trees_livingCount s_trees_firstYear o_trees_livingRings) (some (.int o_r)) := by
  refine CT.ofW (cc := cX11_ring) (maxL := 2) (ret := (some .int)) (by decide +kernel) rfl (Nat.le_of_ble_eq_true rfl) ?_
  intro p e s m below meth c A C0 hA hP hD ls hl
  have C0 : MX p s m [.ref a0, .int x1].toArray meth c cX11_ring 2 wsX11_ring RX11 (some .int) D cA := C0
  have hl : lv_has ls 2 [(0, .ref a0), (1, .int x1)] := hl
  obtain ⟨hx, hb, hml, hown, hts, hr, hlocks, hX⟩ := id C0
  have hK := hX.1
  have hN := hX.2
  have hS : va_S A s.heap s.heap [] := va_S.rf
  unfold f_X11_ring at hf
  refine lv_iload_n hx hb dX11_ring_0 rfl (lv_at hl 1 rfl) ?_
  obtain ⟨r_1, hc_2, hf⟩ := pcl_e hf
  refine m_callS2 (As := [.int x1]) (rest := []) ⟨hx, hb, hml, hown, hts⟩ hX (ct_X11_isWidth l D cA x1 r_1 hc_2) (va_cwS 1 hts gX11_ring_X11_isWidth rfl rfl rfl (by decide +kernel) ⟨Nat.le_of_ble_eq_true rfl, Nat.le_of_ble_eq_true rfl⟩) hP hD hS hA [] [0, 1, 2] 3 (by decide) rfl rfl (WS' := (w_X11_ring a0 q_trees q_trees_livingRings q_text q_ocean q_found q_images q_search q_stories q_signs q_calendar q_draft q_trees_woodRings q_trees_woodCounts q_trees_ends cA s_yearOfNow s_trees_livingCount s_trees_firstYear s_trees_livingRings)) (WR := [(a0, .inr (11, [.ref q_text, .ref q_ocean, .ref q_trees, .ref q_found, .ref q_images, .ref q_search, .ref q_stories, .ref q_signs, .ref q_calendar, .ref q_draft, .int s_yearOfNow])), (q_trees, .inr (10, [.ref q_trees_livingRings, .ref q_trees_woodRings, .ref q_trees_woodCounts, .ref q_trees_ends, .int s_trees_livingCount, .int s_trees_firstYear])), (q_trees_livingRings, .inl (cA 1, 60, .inl s_trees_livingRings))]) rfl rfl rfl rfl (by decide) (by decide) rfl hl.1 rfl (st' := [.int r_1]) rfl (Nat.le_of_ble_eq_true rfl) ⟨Nat.zero_le _, Nat.zero_le _⟩ dX11_ring_1 (fun H locs hP hD hS => ?_)
  refine lv_if_ne (tgt := 9) hx hb dX11_ring_4 (by decide) (fun c_3 => ?_) (fun c_3 => ?_)
  · have hf := pbr_f c_3 hf
    refine lv_aload_n hx hb dX11_ring_9 rfl (lv_at hl 0 rfl) ?_
    refine va_get (D := D) (ci := 11) (v := .ref q_trees) (C := RX11) (T := TX11) (N := 11) hx hb hts hn_X11_ring_X11 hown hK hP 0 rfl rfl 2 (by decide) (hts _ hw_X11_ring_f26) (fun _ h9 => h9) rfl dX11_ring_10 ?_
    refine va_getN (D := D) (ci := 10) (v := .int s_trees_livingCount) (C := RX10) (T := TX10) (N := 6) hx hb hts hn_X11_ring_X10 hown hK hP 1 rfl rfl 4 (by decide) (va_Nw.use rfl (hN _ nw_X11_204)) (fun _ h9 => h9) rfl dX11_ring_13 ?_
    refine lv_bipush (v := (60 : Int32)) hx hb dX11_ring_16 (by decide) ?_
    refine lv_icmp_lt (tgt := 26) hx hb dX11_ring_18 (by decide) (fun c_4 => ?_) (fun c_4 => ?_)
    · have hf := pbr_t c_4 hf
      refine lv_aload_n hx hb dX11_ring_26 rfl (lv_at hl 0 rfl) ?_
      refine va_get (D := D) (ci := 11) (v := .ref q_trees) (C := RX11) (T := TX11) (N := 11) hx hb hts hn_X11_ring_X11 hown hK hP 0 rfl rfl 2 (by decide) (hts _ hw_X11_ring_f26) (fun _ h9 => h9) rfl dX11_ring_27 ?_
      refine lv_iload_n hx hb dX11_ring_30 rfl (lv_at hl 1 rfl) ?_
      obtain ⟨⟨r_5, livingCount_6, livingRings_7⟩, hc_8, hf⟩ := pcl_e hf
      refine m_callV2 (As := [.int x1]) (rest := []) ⟨hx, hb, hml, hown, hts⟩ hX (ct_X10_grow l D cA x1 q_trees q_trees_livingRings q_trees_woodRings q_trees_woodCounts q_trees_ends s_trees_livingCount s_trees_firstYear s_trees_livingRings r_5 livingCount_6 livingRings_7 hc_8) (cwV 1 hts gX11_ring_X10_grow rfl rfl rfl (by decide +kernel) ⟨Nat.le_of_ble_eq_true rfl, Nat.le_of_ble_eq_true rfl⟩) hP hD hS hA [1, 2] [0] 3 (by decide) rfl rfl (WS' := (w_X11_ring a0 q_trees q_trees_livingRings q_text q_ocean q_found q_images q_search q_stories q_signs q_calendar q_draft q_trees_woodRings q_trees_woodCounts q_trees_ends cA s_yearOfNow livingCount_6 s_trees_firstYear livingRings_7)) (WR := [(a0, .inr (11, [.ref q_text, .ref q_ocean, .ref q_trees, .ref q_found, .ref q_images, .ref q_search, .ref q_stories, .ref q_signs, .ref q_calendar, .ref q_draft, .int s_yearOfNow]))]) rfl rfl rfl rfl (by decide) (by decide) 1 10 rfl rfl rfl hl.1 rfl (st' := [.int r_5]) rfl (Nat.le_of_ble_eq_true rfl) ⟨Nat.zero_le _, Nat.zero_le _⟩ dX11_ring_31 (fun H locs hP hD hS => ?_)
      obtain ⟨rfl, rfl, rfl⟩ := pe3 hf
      exact m_iret hx hb hr hlocks hP hS dX11_ring_34
    have hf := pbr_f c_4 hf
    refine lv_bipush (v := (-3 : Int32)) hx hb dX11_ring_21 (by decide) ?_
    refine lv_goto (tgt := 34) hx hb dX11_ring_23 (by decide) ?_
    obtain ⟨rfl, rfl, rfl⟩ := pe3 hf
    exact m_iret hx hb hr hlocks hP hS dX11_ring_34
  have hf := pbr_t c_3 hf
  refine lv_iconst (v := (-1 : Int32)) hx hb dX11_ring_7 (by decide) ?_
  obtain ⟨rfl, rfl, rfl⟩ := pe3 hf
  exact m_iret hx hb hr hlocks hP hS dX11_ring_8

/-! ===== OrphanWave.living(I)I ===== -/
abbrev rm_X11_living : Room := { frames := 2, cells := 0, slots := 0, locals := 42 }
abbrev w_X11_living (a0 : Nat) (q_trees : Nat) (q_text : Nat) (q_ocean : Nat) (q_found : Nat) (q_images : Nat) (q_search : Nat) (q_stories : Nat) (q_signs : Nat) (q_calendar : Nat) (q_draft : Nat) (q_trees_livingRings : Nat) (q_trees_woodRings : Nat) (q_trees_woodCounts : Nat) (q_trees_ends : Nat) (cA : Nat → ClassId) (s_yearOfNow : Int32) (s_trees_livingCount : Int32) (s_trees_firstYear : Int32) : va_W := [(a0, .inr (11, [.ref q_text, .ref q_ocean, .ref q_trees, .ref q_found, .ref q_images, .ref q_search, .ref q_stories, .ref q_signs, .ref q_calendar, .ref q_draft, .int s_yearOfNow])), (q_trees, .inr (10, [.ref q_trees_livingRings, .ref q_trees_woodRings, .ref q_trees_woodCounts, .ref q_trees_ends, .int s_trees_livingCount, .int s_trees_firstYear]))]
theorem hn_X11_living_X11 : ∀ w ∈ u_ws RX11 TX11 11, w ∈ wsX11_living := by decide +kernel
theorem hw_X11_living_f26 : Cond.fieldLink RX11 26 "OrphanWave" "trees" "LOrphanWave$Trees;" ∈ wsX11_living := by decide +kernel

def f_X11_living (x1 : Int32) (s_trees_livingCount : Int32) (s_trees_firstYear : Int32) : Option ((Int32) × (Int32) × (Int32)) :=
  pcl (f_X11_isYear x1) (fun r_1 => (
  pbr (r_1 = 0)
    (some ((-1 : Int32), s_trees_livingCount, s_trees_firstYear))
    (pcl (f_X10_plant x1 s_trees_livingCount s_trees_firstYear) (fun (r_4, livingCount_5, firstYear_6) => (
    some (r_4, livingCount_5, firstYear_6))))))

set_option maxRecDepth 100000 in
set_option maxHeartbeats 4000000 in
theorem ct_X11_living (l : Launch) (D : va_G) (cA : Nat → ClassId) (x1 : Int32) (a0 : Nat) (q_trees : Nat) (q_text : Nat) (q_ocean : Nat) (q_found : Nat) (q_images : Nat) (q_search : Nat) (q_stories : Nat) (q_signs : Nat) (q_calendar : Nat) (q_draft : Nat) (q_trees_livingRings : Nat) (q_trees_woodRings : Nat) (q_trees_woodCounts : Nat) (q_trees_ends : Nat) (s_yearOfNow : Int32) (s_trees_livingCount : Int32) (s_trees_firstYear : Int32) (o_r : Int32) (o_trees_livingCount : Int32) (o_trees_firstYear : Int32) (hf : f_X11_living x1 s_trees_livingCount s_trees_firstYear = some (o_r, o_trees_livingCount, o_trees_firstYear)) : CT l yX11_living wsX11_living rm_X11_living D cA [.ref a0, .int x1] (w_X11_living a0 q_trees q_text q_ocean q_found q_images q_search q_stories q_signs q_calendar q_draft q_trees_livingRings q_trees_woodRings q_trees_woodCounts q_trees_ends cA s_yearOfNow s_trees_livingCount s_trees_firstYear) (w_X11_living a0 q_trees q_text q_ocean q_found q_images q_search q_stories q_signs q_calendar q_draft q_trees_livingRings q_trees_woodRings q_trees_woodCounts q_trees_ends cA s_yearOfNow o_trees_livingCount o_trees_firstYear) (some (.int o_r)) := by
  refine CT.ofW (cc := cX11_living) (maxL := 2) (ret := (some .int)) (by decide +kernel) rfl (Nat.le_of_ble_eq_true rfl) ?_
  intro p e s m below meth c A C0 hA hP hD ls hl
  have C0 : MX p s m [.ref a0, .int x1].toArray meth c cX11_living 2 wsX11_living RX11 (some .int) D cA := C0
  have hl : lv_has ls 2 [(0, .ref a0), (1, .int x1)] := hl
  obtain ⟨hx, hb, hml, hown, hts, hr, hlocks, hX⟩ := id C0
  have hK := hX.1
  have hN := hX.2
  have hS : va_S A s.heap s.heap [] := va_S.rf
  unfold f_X11_living at hf
  refine lv_iload_n hx hb dX11_living_0 rfl (lv_at hl 1 rfl) ?_
  obtain ⟨r_1, hc_2, hf⟩ := pcl_e hf
  refine m_callS2 (As := [.int x1]) (rest := []) ⟨hx, hb, hml, hown, hts⟩ hX (ct_X11_isYear l D cA x1 r_1 hc_2) (va_cwS 1 hts gX11_living_X11_isYear rfl rfl rfl (by decide +kernel) ⟨Nat.le_of_ble_eq_true rfl, Nat.le_of_ble_eq_true rfl⟩) hP hD hS hA [] [0, 1] 2 (by decide) rfl rfl (WS' := (w_X11_living a0 q_trees q_text q_ocean q_found q_images q_search q_stories q_signs q_calendar q_draft q_trees_livingRings q_trees_woodRings q_trees_woodCounts q_trees_ends cA s_yearOfNow s_trees_livingCount s_trees_firstYear)) (WR := [(a0, .inr (11, [.ref q_text, .ref q_ocean, .ref q_trees, .ref q_found, .ref q_images, .ref q_search, .ref q_stories, .ref q_signs, .ref q_calendar, .ref q_draft, .int s_yearOfNow])), (q_trees, .inr (10, [.ref q_trees_livingRings, .ref q_trees_woodRings, .ref q_trees_woodCounts, .ref q_trees_ends, .int s_trees_livingCount, .int s_trees_firstYear]))]) rfl rfl rfl rfl (by decide) (by decide) rfl hl.1 rfl (st' := [.int r_1]) rfl (Nat.le_of_ble_eq_true rfl) ⟨Nat.zero_le _, Nat.zero_le _⟩ dX11_living_1 (fun H locs hP hD hS => ?_)
  refine lv_if_eq (tgt := 18) hx hb dX11_living_4 (by decide) (fun c_3 => ?_) (fun c_3 => ?_)
  · have hf := pbr_t c_3 hf
    refine lv_iconst (v := (-1 : Int32)) hx hb dX11_living_18 (by decide) ?_
    obtain ⟨rfl, rfl, rfl⟩ := pe3 hf
    exact m_iret hx hb hr hlocks hP hS dX11_living_19
  have hf := pbr_f c_3 hf
  refine lv_aload_n hx hb dX11_living_7 rfl (lv_at hl 0 rfl) ?_
  refine va_get (D := D) (ci := 11) (v := .ref q_trees) (C := RX11) (T := TX11) (N := 11) hx hb hts hn_X11_living_X11 hown hK hP 0 rfl rfl 2 (by decide) (hts _ hw_X11_living_f26) (fun _ h9 => h9) rfl dX11_living_8 ?_
  refine lv_iload_n hx hb dX11_living_11 rfl (lv_at hl 1 rfl) ?_
  obtain ⟨⟨r_4, livingCount_5, firstYear_6⟩, hc_7, hf⟩ := pcl_e hf
  refine m_callV2 (As := [.int x1]) (rest := []) ⟨hx, hb, hml, hown, hts⟩ hX (ct_X10_plant l D cA x1 q_trees q_trees_livingRings q_trees_woodRings q_trees_woodCounts q_trees_ends s_trees_livingCount s_trees_firstYear r_4 livingCount_5 firstYear_6 hc_7) (cwV 1 hts gX11_living_X10_plant rfl rfl rfl (by decide +kernel) ⟨Nat.le_of_ble_eq_true rfl, Nat.le_of_ble_eq_true rfl⟩) hP hD hS hA [1] [0] 2 (by decide) rfl rfl (WS' := (w_X11_living a0 q_trees q_text q_ocean q_found q_images q_search q_stories q_signs q_calendar q_draft q_trees_livingRings q_trees_woodRings q_trees_woodCounts q_trees_ends cA s_yearOfNow livingCount_5 firstYear_6)) (WR := [(a0, .inr (11, [.ref q_text, .ref q_ocean, .ref q_trees, .ref q_found, .ref q_images, .ref q_search, .ref q_stories, .ref q_signs, .ref q_calendar, .ref q_draft, .int s_yearOfNow]))]) rfl rfl rfl rfl (by decide) (by decide) 1 10 rfl rfl rfl hl.1 rfl (st' := [.int r_4]) rfl (Nat.le_of_ble_eq_true rfl) ⟨Nat.zero_le _, Nat.zero_le _⟩ dX11_living_12 (fun H locs hP hD hS => ?_)
  refine lv_goto (tgt := 19) hx hb dX11_living_15 (by decide) ?_
  obtain ⟨rfl, rfl, rfl⟩ := pe3 hf
  exact m_iret hx hb hr hlocks hP hS dX11_living_19
