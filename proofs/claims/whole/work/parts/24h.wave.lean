/-! ===== OrphanWave.story(II)J ===== -/
abbrev rm_X11_story : Room := { frames := 2, cells := 0, slots := 0, locals := 42 }
abbrev w_X11_story (a0 : Nat) (q_found : Nat) (q_found_weights : Nat) (q_text : Nat) (q_ocean : Nat) (q_trees : Nat) (q_images : Nat) (q_search : Nat) (q_stories : Nat) (q_signs : Nat) (q_calendar : Nat) (q_draft : Nat) (q_found_books : Nat) (q_found_sheets : Nat) (q_found_known : Nat) (cA : Nat → ClassId) (s_yearOfNow : Int32) (s_found_dugMarshes : Int32) (s_found_kept : Int32) (s_found_weights : Nat → Int64) : va_W := [(a0, .inr (11, [.ref q_text, .ref q_ocean, .ref q_trees, .ref q_found, .ref q_images, .ref q_search, .ref q_stories, .ref q_signs, .ref q_calendar, .ref q_draft, .int s_yearOfNow])), (q_found, .inr (2, [.ref q_found_books, .ref q_found_sheets, .ref q_found_known, .ref q_found_weights, .int s_found_dugMarshes, .int s_found_kept])), (q_found_weights, .inl (cA 2, 5, .inr (.inl s_found_weights)))]
theorem hn_X11_story_X11 : ∀ w ∈ u_ws RX11 TX11 11, w ∈ wsX11_story := by decide +kernel
theorem hn_X11_story_X2 : ∀ w ∈ u_ws RX2 TX2 6, w ∈ wsX11_story := by decide +kernel
theorem hw_X11_story_c311 : Cond.constantLong RX11 311 (-1) ∈ wsX11_story := by decide +kernel
theorem hw_X11_story_f33 : Cond.fieldLink RX11 33 "OrphanWave" "found" "LOrphanWave$Findings;" ∈ wsX11_story := by decide +kernel

def f_X11_story (x1 : Int32) (x2 : Int32) (s_found_weights : Nat → Int64) : Option ((Int64) × (Nat → Int64)) :=
  pcl (f_X11_isStory x1) (fun r_1 => (
  pbr (r_1 = 0)
    (some ((-1 : Int64), s_found_weights))
    (pcl (f_X11_within x2 (0 : Int32) (99 : Int32)) (fun r_4 => (
    pbr (r_4 = 0)
      (some ((-1 : Int64), s_found_weights))
      (pgd (pin x1 5) (
      plt ((s_found_weights x1.toNatClampNeg) : Int64) (fun x3_8 => (
      plt (vp_updL s_found_weights x1.toNatClampNeg x2.toInt64 : Nat → Int64) (fun f_9 => (
      some (x3_8, f_9))))))))))))

set_option maxRecDepth 100000 in
set_option maxHeartbeats 4000000 in
theorem ct_X11_story (l : Launch) (D : va_G) (cA : Nat → ClassId) (x1 : Int32) (x2 : Int32) (a0 : Nat) (q_found : Nat) (q_found_weights : Nat) (q_text : Nat) (q_ocean : Nat) (q_trees : Nat) (q_images : Nat) (q_search : Nat) (q_stories : Nat) (q_signs : Nat) (q_calendar : Nat) (q_draft : Nat) (q_found_books : Nat) (q_found_sheets : Nat) (q_found_known : Nat) (s_yearOfNow : Int32) (s_found_dugMarshes : Int32) (s_found_kept : Int32) (s_found_weights : Nat → Int64) (o_r : Int64) (o_found_weights : Nat → Int64) (hf : f_X11_story x1 x2 s_found_weights = some (o_r, o_found_weights)) : CT l yX11_story wsX11_story rm_X11_story D cA [.ref a0, .int x1, .int x2] (w_X11_story a0 q_found q_found_weights q_text q_ocean q_trees q_images q_search q_stories q_signs q_calendar q_draft q_found_books q_found_sheets q_found_known cA s_yearOfNow s_found_dugMarshes s_found_kept s_found_weights) (w_X11_story a0 q_found q_found_weights q_text q_ocean q_trees q_images q_search q_stories q_signs q_calendar q_draft q_found_books q_found_sheets q_found_known cA s_yearOfNow s_found_dugMarshes s_found_kept o_found_weights) (some (.long o_r)) := by
  refine CT.ofW (cc := cX11_story) (maxL := 5) (ret := (some .long)) (by decide +kernel) rfl (Nat.le_of_ble_eq_true rfl) ?_
  intro p e s m below meth c A C0 hA hP hD ls hl
  have C0 : MX p s m [.ref a0, .int x1, .int x2].toArray meth c cX11_story 5 wsX11_story RX11 (some .long) D cA := C0
  have hl : lv_has ls 5 [(0, .ref a0), (1, .int x1), (2, .int x2)] := hl
  obtain ⟨hx, hb, hml, hown, hts, hr, hlocks, hX⟩ := id C0
  have hK := hX.1
  have hN := hX.2
  have hS : va_S A s.heap s.heap [] := va_S.rf
  unfold f_X11_story at hf
  refine lv_iload_n hx hb dX11_story_0 rfl (lv_at hl 1 rfl) ?_
  obtain ⟨r_1, hc_2, hf⟩ := pcl_e hf
  refine m_callS2 (As := [.int x1]) (rest := []) ⟨hx, hb, hml, hown, hts⟩ hX (ct_X11_isStory l D cA x1 r_1 hc_2) (va_cwS 1 hts gX11_story_X11_isStory rfl rfl rfl (by decide +kernel) ⟨Nat.le_of_ble_eq_true rfl, Nat.le_of_ble_eq_true rfl⟩) hP hD hS hA [] [0, 1, 2] 3 (by decide) rfl rfl (WS' := (w_X11_story a0 q_found q_found_weights q_text q_ocean q_trees q_images q_search q_stories q_signs q_calendar q_draft q_found_books q_found_sheets q_found_known cA s_yearOfNow s_found_dugMarshes s_found_kept s_found_weights)) (WR := [(a0, .inr (11, [.ref q_text, .ref q_ocean, .ref q_trees, .ref q_found, .ref q_images, .ref q_search, .ref q_stories, .ref q_signs, .ref q_calendar, .ref q_draft, .int s_yearOfNow])), (q_found, .inr (2, [.ref q_found_books, .ref q_found_sheets, .ref q_found_known, .ref q_found_weights, .int s_found_dugMarshes, .int s_found_kept])), (q_found_weights, .inl (cA 2, 5, .inr (.inl s_found_weights)))]) rfl rfl rfl rfl (by decide) (by decide) rfl hl.1 rfl (st' := [.int r_1]) rfl (Nat.le_of_ble_eq_true rfl) ⟨Nat.zero_le _, Nat.zero_le _⟩ dX11_story_1 (fun H locs hP hD hS => ?_)
  refine lv_if_eq (tgt := 17) hx hb dX11_story_4 (by decide) (fun c_3 => ?_) (fun c_3 => ?_)
  · have hf := pbr_t c_3 hf
    refine lv_ldc2 (v := (-1 : Int64)) hx hb hown (hts _ hw_X11_story_c311) dX11_story_17 ?_
    obtain ⟨rfl, rfl⟩ := pe2 hf
    exact m_lret hx hb hr hlocks hP hS dX11_story_20
  have hf := pbr_f c_3 hf
  refine lv_iload_n hx hb dX11_story_7 rfl (lv_at hl 2 rfl) ?_
  refine lv_iconst (v := (0 : Int32)) hx hb dX11_story_8 (by decide) ?_
  refine lv_bipush (v := (99 : Int32)) hx hb dX11_story_9 (by decide) ?_
  obtain ⟨r_4, hc_5, hf⟩ := pcl_e hf
  refine m_callS2 (As := [.int x2, .int (0 : Int32), .int (99 : Int32)]) (rest := []) ⟨hx, hb, hml, hown, hts⟩ hX (ct_X11_within l D cA x2 (0 : Int32) (99 : Int32) r_4 hc_5) (va_cwS 3 hts gX11_story_X11_within rfl rfl rfl (by decide +kernel) ⟨Nat.le_of_ble_eq_true rfl, Nat.le_of_ble_eq_true rfl⟩) hP hD hS hA [] [0, 1, 2] 3 (by decide) rfl rfl (WS' := (w_X11_story a0 q_found q_found_weights q_text q_ocean q_trees q_images q_search q_stories q_signs q_calendar q_draft q_found_books q_found_sheets q_found_known cA s_yearOfNow s_found_dugMarshes s_found_kept s_found_weights)) (WR := [(a0, .inr (11, [.ref q_text, .ref q_ocean, .ref q_trees, .ref q_found, .ref q_images, .ref q_search, .ref q_stories, .ref q_signs, .ref q_calendar, .ref q_draft, .int s_yearOfNow])), (q_found, .inr (2, [.ref q_found_books, .ref q_found_sheets, .ref q_found_known, .ref q_found_weights, .int s_found_dugMarshes, .int s_found_kept])), (q_found_weights, .inl (cA 2, 5, .inr (.inl s_found_weights)))]) rfl rfl rfl rfl (by decide) (by decide) rfl hl.1 rfl (st' := [.int r_4]) rfl (Nat.le_of_ble_eq_true rfl) ⟨Nat.zero_le _, Nat.zero_le _⟩ dX11_story_11 (fun H locs hP hD hS => ?_)
  refine lv_if_ne (tgt := 21) hx hb dX11_story_14 (by decide) (fun c_6 => ?_) (fun c_6 => ?_)
  · have hf := pbr_f c_6 hf
    refine lv_aload_n hx hb dX11_story_21 rfl (lv_at hl 0 rfl) ?_
    refine va_get (D := D) (ci := 11) (v := .ref q_found) (C := RX11) (T := TX11) (N := 11) hx hb hts hn_X11_story_X11 hown hK hP 0 rfl rfl 3 (by decide) (hts _ hw_X11_story_f33) (fun _ h9 => h9) rfl dX11_story_22 ?_
    refine va_getN (D := D) (ci := 2) (v := .ref q_found_weights) (C := RX2) (T := TX2) (N := 6) hx hb hts hn_X11_story_X2 hown hK hP 1 rfl rfl 3 (by decide) (va_Nw.use rfl (hN _ nw_X11_313)) (fun _ h9 => h9) rfl dX11_story_25 ?_
    refine lv_iload_n hx hb dX11_story_28 rfl (lv_at hl 1 rfl) ?_
    obtain ⟨g_7, hf⟩ := pgd_e hf
    refine va_lald hx hb hK hP 2 2 rfl rfl g_7 dX11_story_29 ?_
    refine lv_topl (fun x3_8 ex3_8 => ?_)
    have hf := plt_e ex3_8 hf
    refine lv_lstore_n (lv' := [(3, .long x3_8), (0, .ref a0), (1, .int x1), (2, .int x2)]) hx hb dX11_story_30 rfl hl (by decide) rfl (fun ls hl => ?_)
    refine lv_aload_n hx hb dX11_story_31 rfl (lv_at hl 1 rfl) ?_
    refine va_get (D := D) (ci := 11) (v := .ref q_found) (C := RX11) (T := TX11) (N := 11) hx hb hts hn_X11_story_X11 hown hK hP 0 rfl rfl 3 (by decide) (hts _ hw_X11_story_f33) (fun _ h9 => h9) rfl dX11_story_32 ?_
    refine va_getN (D := D) (ci := 2) (v := .ref q_found_weights) (C := RX2) (T := TX2) (N := 6) hx hb hts hn_X11_story_X2 hown hK hP 1 rfl rfl 3 (by decide) (va_Nw.use rfl (hN _ nw_X11_313)) (fun _ h9 => h9) rfl dX11_story_35 ?_
    refine lv_iload_n hx hb dX11_story_38 rfl (lv_at hl 2 rfl) ?_
    refine lv_iload_n hx hb dX11_story_39 rfl (lv_at hl 3 rfl) ?_
    refine lv_i2l hx hb dX11_story_40 rfl ?_
    refine va_last hx hb hK hP hD hS 2 2 rfl rfl g_7 dX11_story_41 (fun H locs hP hD hS => ?_)
    obtain ⟨f_9, ef_9⟩ : ∃ z : Nat → Int64, z = vp_updL s_found_weights x1.toNatClampNeg x2.toInt64 := ⟨_, rfl⟩
    have hf := plt_e ef_9 hf
    have hP : va_P D vwCl (w_X11_story a0 q_found q_found_weights q_text q_ocean q_trees q_images q_search q_stories q_signs q_calendar q_draft q_found_books q_found_sheets q_found_known cA s_yearOfNow s_found_dugMarshes s_found_kept f_9) H := by rw [ef_9]; exact hP
    have hD : va_D A (w_X11_story a0 q_found q_found_weights q_text q_ocean q_trees q_images q_search q_stories q_signs q_calendar q_draft q_found_books q_found_sheets q_found_known cA s_yearOfNow s_found_dugMarshes s_found_kept f_9) := by rw [ef_9]; exact hD
    refine lv_lload_n hx hb dX11_story_42 rfl (lv_at hl 0 rfl) ?_
    obtain ⟨rfl, rfl⟩ := pe2 hf
    exact m_lret hx hb hr hlocks hP hS dX11_story_43
  have hf := pbr_t c_6 hf
  refine lv_ldc2 (v := (-1 : Int64)) hx hb hown (hts _ hw_X11_story_c311) dX11_story_17 ?_
  obtain ⟨rfl, rfl⟩ := pe2 hf
  exact m_lret hx hb hr hlocks hP hS dX11_story_20

/-! ===== OrphanWave.chance(III)I ===== -/
abbrev rm_X11_chance : Room := { frames := 2, cells := 0, slots := 0, locals := 42 }
abbrev wx_X11_chance (a0 : Nat) (q_stories : Nat) (q_stories_chances : Nat) (q_text : Nat) (q_ocean : Nat) (q_trees : Nat) (q_found : Nat) (q_images : Nat) (q_search : Nat) (q_signs : Nat) (q_calendar : Nat) (q_draft : Nat) (q_stories_behind : Nat) (r_stories_chances : Nat → Nat) (cA : Nat → ClassId) (s_yearOfNow : Int32) (s_stories_chances : Nat → Nat → Int32) : va_W := [(a0, .inr (11, [.ref q_text, .ref q_ocean, .ref q_trees, .ref q_found, .ref q_images, .ref q_search, .ref q_stories, .ref q_signs, .ref q_calendar, .ref q_draft, .int s_yearOfNow])), (q_stories, .inr (8, [.ref q_found, .ref q_stories_chances, .ref q_stories_behind])), (q_stories_chances, .inl (cA 5, 5, .inr (.inr (.inr (.inr (gro 5 r_stories_chances))))))]
abbrev w_X11_chance (a0 : Nat) (q_stories : Nat) (q_stories_chances : Nat) (q_text : Nat) (q_ocean : Nat) (q_trees : Nat) (q_found : Nat) (q_images : Nat) (q_search : Nat) (q_signs : Nat) (q_calendar : Nat) (q_draft : Nat) (q_stories_behind : Nat) (r_stories_chances : Nat → Nat) (cA : Nat → ClassId) (s_yearOfNow : Int32) (s_stories_chances : Nat → Nat → Int32) : va_W := [(a0, .inr (11, [.ref q_text, .ref q_ocean, .ref q_trees, .ref q_found, .ref q_images, .ref q_search, .ref q_stories, .ref q_signs, .ref q_calendar, .ref q_draft, .int s_yearOfNow])), (q_stories, .inr (8, [.ref q_found, .ref q_stories_chances, .ref q_stories_behind])), (q_stories_chances, .inl (cA 5, 5, .inr (.inr (.inr (.inr (gro 5 r_stories_chances))))))] ++ grw 5 r_stories_chances (cA 1) 6 s_stories_chances
theorem hn_X11_chance_X11 : ∀ w ∈ u_ws RX11 TX11 11, w ∈ wsX11_chance := by decide +kernel
theorem hn_X11_chance_X8 : ∀ w ∈ u_ws RX8 TX8 3, w ∈ wsX11_chance := by decide +kernel
theorem hw_X11_chance_f59 : Cond.fieldLink RX11 59 "OrphanWave" "stories" "LOrphanWave$Stories;" ∈ wsX11_chance := by decide +kernel

def f_X11_chance (x1 : Int32) (x2 : Int32) (x3 : Int32) (s_stories_chances : Nat → Nat → Int32) : Option ((Int32) × (Nat → Nat → Int32)) :=
  pcl (f_X11_isStory x1) (fun r_1 => (
  pbr (r_1 = 0)
    (some ((-1 : Int32), s_stories_chances))
    (pcl (f_X11_isMarsh x2) (fun r_4 => (
    pbr (r_4 = 0)
      (some ((-1 : Int32), s_stories_chances))
      (pcl (f_X11_within x3 (0 : Int32) (10 : Int32)) (fun r_7 => (
      pbr (r_7 = 0)
        (some ((-1 : Int32), s_stories_chances))
        (pgd (pin x1 5) (
        pgd (pin x2 6) (
        plt ((s_stories_chances x1.toNatClampNeg x2.toNatClampNeg) : Int32) (fun x4_12 => (
        plt (up2 s_stories_chances x1.toNatClampNeg x2.toNatClampNeg x3 : Nat → Nat → Int32) (fun f_13 => (
        some (x4_12, f_13))))))))))))))))

set_option maxRecDepth 100000 in
set_option maxHeartbeats 4000000 in
theorem ct_X11_chance (l : Launch) (D : va_G) (cA : Nat → ClassId) (x1 : Int32) (x2 : Int32) (x3 : Int32) (a0 : Nat) (q_stories : Nat) (q_stories_chances : Nat) (q_text : Nat) (q_ocean : Nat) (q_trees : Nat) (q_found : Nat) (q_images : Nat) (q_search : Nat) (q_signs : Nat) (q_calendar : Nat) (q_draft : Nat) (q_stories_behind : Nat) (r_stories_chances : Nat → Nat) (s_yearOfNow : Int32) (s_stories_chances : Nat → Nat → Int32) (o_r : Int32) (o_stories_chances : Nat → Nat → Int32) (hf : f_X11_chance x1 x2 x3 s_stories_chances = some (o_r, o_stories_chances)) : CT l yX11_chance wsX11_chance rm_X11_chance D cA [.ref a0, .int x1, .int x2, .int x3] (w_X11_chance a0 q_stories q_stories_chances q_text q_ocean q_trees q_found q_images q_search q_signs q_calendar q_draft q_stories_behind r_stories_chances cA s_yearOfNow s_stories_chances) (w_X11_chance a0 q_stories q_stories_chances q_text q_ocean q_trees q_found q_images q_search q_signs q_calendar q_draft q_stories_behind r_stories_chances cA s_yearOfNow o_stories_chances) (some (.int o_r)) := by
  refine CT.ofW (cc := cX11_chance) (maxL := 5) (ret := (some .int)) (by decide +kernel) rfl (Nat.le_of_ble_eq_true rfl) ?_
  intro p e s m below meth c A C0 hA hP hD ls hl
  have C0 : MX p s m [.ref a0, .int x1, .int x2, .int x3].toArray meth c cX11_chance 5 wsX11_chance RX11 (some .int) D cA := C0
  have hl : lv_has ls 5 [(0, .ref a0), (1, .int x1), (2, .int x2), (3, .int x3)] := hl
  obtain ⟨hx, hb, hml, hown, hts, hr, hlocks, hX⟩ := id C0
  have hK := hX.1
  have hN := hX.2
  have hS : va_S A s.heap s.heap [] := va_S.rf
  unfold f_X11_chance at hf
  refine lv_iload_n hx hb dX11_chance_0 rfl (lv_at hl 1 rfl) ?_
  obtain ⟨r_1, hc_2, hf⟩ := pcl_e hf
  refine m_callS2 (As := [.int x1]) (rest := []) ⟨hx, hb, hml, hown, hts⟩ hX (ct_X11_isStory l D cA x1 r_1 hc_2) (va_cwS 1 hts gX11_chance_X11_isStory rfl rfl rfl (by decide +kernel) ⟨Nat.le_of_ble_eq_true rfl, Nat.le_of_ble_eq_true rfl⟩) hP hD hS hA [] [0, 1, 2, 3, 4, 5, 6, 7] 8 (by decide) rfl rfl (WS' := (w_X11_chance a0 q_stories q_stories_chances q_text q_ocean q_trees q_found q_images q_search q_signs q_calendar q_draft q_stories_behind r_stories_chances cA s_yearOfNow s_stories_chances)) (WR := [(a0, .inr (11, [.ref q_text, .ref q_ocean, .ref q_trees, .ref q_found, .ref q_images, .ref q_search, .ref q_stories, .ref q_signs, .ref q_calendar, .ref q_draft, .int s_yearOfNow])), (q_stories, .inr (8, [.ref q_found, .ref q_stories_chances, .ref q_stories_behind])), (q_stories_chances, .inl (cA 5, 5, .inr (.inr (.inr (.inr (gro 5 r_stories_chances))))))] ++ grw 5 r_stories_chances (cA 1) 6 s_stories_chances) rfl rfl rfl rfl (by decide) (by decide) rfl hl.1 rfl (st' := [.int r_1]) rfl (Nat.le_of_ble_eq_true rfl) ⟨Nat.zero_le _, Nat.zero_le _⟩ dX11_chance_1 (fun H locs hP hD hS => ?_)
  refine lv_if_eq (tgt := 24) hx hb dX11_chance_4 (by decide) (fun c_3 => ?_) (fun c_3 => ?_)
  · have hf := pbr_t c_3 hf
    refine lv_iconst (v := (-1 : Int32)) hx hb dX11_chance_24 (by decide) ?_
    obtain ⟨rfl, rfl⟩ := pe2 hf
    exact m_iret hx hb hr hlocks hP hS dX11_chance_25
  have hf := pbr_f c_3 hf
  refine lv_iload_n hx hb dX11_chance_7 rfl (lv_at hl 2 rfl) ?_
  obtain ⟨r_4, hc_5, hf⟩ := pcl_e hf
  refine m_callS2 (As := [.int x2]) (rest := []) ⟨hx, hb, hml, hown, hts⟩ hX (ct_X11_isMarsh l D cA x2 r_4 hc_5) (va_cwS 1 hts gX11_chance_X11_isMarsh rfl rfl rfl (by decide +kernel) ⟨Nat.le_of_ble_eq_true rfl, Nat.le_of_ble_eq_true rfl⟩) hP hD hS hA [] [0, 1, 2, 3, 4, 5, 6, 7] 8 (by decide) rfl rfl (WS' := (w_X11_chance a0 q_stories q_stories_chances q_text q_ocean q_trees q_found q_images q_search q_signs q_calendar q_draft q_stories_behind r_stories_chances cA s_yearOfNow s_stories_chances)) (WR := [(a0, .inr (11, [.ref q_text, .ref q_ocean, .ref q_trees, .ref q_found, .ref q_images, .ref q_search, .ref q_stories, .ref q_signs, .ref q_calendar, .ref q_draft, .int s_yearOfNow])), (q_stories, .inr (8, [.ref q_found, .ref q_stories_chances, .ref q_stories_behind])), (q_stories_chances, .inl (cA 5, 5, .inr (.inr (.inr (.inr (gro 5 r_stories_chances))))))] ++ grw 5 r_stories_chances (cA 1) 6 s_stories_chances) rfl rfl rfl rfl (by decide) (by decide) rfl hl.1 rfl (st' := [.int r_4]) rfl (Nat.le_of_ble_eq_true rfl) ⟨Nat.zero_le _, Nat.zero_le _⟩ dX11_chance_8 (fun H locs hP hD hS => ?_)
  refine lv_if_eq (tgt := 24) hx hb dX11_chance_11 (by decide) (fun c_6 => ?_) (fun c_6 => ?_)
  · have hf := pbr_t c_6 hf
    refine lv_iconst (v := (-1 : Int32)) hx hb dX11_chance_24 (by decide) ?_
    obtain ⟨rfl, rfl⟩ := pe2 hf
    exact m_iret hx hb hr hlocks hP hS dX11_chance_25
  have hf := pbr_f c_6 hf
  refine lv_iload_n hx hb dX11_chance_14 rfl (lv_at hl 3 rfl) ?_
  refine lv_iconst (v := (0 : Int32)) hx hb dX11_chance_15 (by decide) ?_
  refine lv_bipush (v := (10 : Int32)) hx hb dX11_chance_16 (by decide) ?_
  obtain ⟨r_7, hc_8, hf⟩ := pcl_e hf
  refine m_callS2 (As := [.int x3, .int (0 : Int32), .int (10 : Int32)]) (rest := []) ⟨hx, hb, hml, hown, hts⟩ hX (ct_X11_within l D cA x3 (0 : Int32) (10 : Int32) r_7 hc_8) (va_cwS 3 hts gX11_chance_X11_within rfl rfl rfl (by decide +kernel) ⟨Nat.le_of_ble_eq_true rfl, Nat.le_of_ble_eq_true rfl⟩) hP hD hS hA [] [0, 1, 2, 3, 4, 5, 6, 7] 8 (by decide) rfl rfl (WS' := (w_X11_chance a0 q_stories q_stories_chances q_text q_ocean q_trees q_found q_images q_search q_signs q_calendar q_draft q_stories_behind r_stories_chances cA s_yearOfNow s_stories_chances)) (WR := [(a0, .inr (11, [.ref q_text, .ref q_ocean, .ref q_trees, .ref q_found, .ref q_images, .ref q_search, .ref q_stories, .ref q_signs, .ref q_calendar, .ref q_draft, .int s_yearOfNow])), (q_stories, .inr (8, [.ref q_found, .ref q_stories_chances, .ref q_stories_behind])), (q_stories_chances, .inl (cA 5, 5, .inr (.inr (.inr (.inr (gro 5 r_stories_chances))))))] ++ grw 5 r_stories_chances (cA 1) 6 s_stories_chances) rfl rfl rfl rfl (by decide) (by decide) rfl hl.1 rfl (st' := [.int r_7]) rfl (Nat.le_of_ble_eq_true rfl) ⟨Nat.zero_le _, Nat.zero_le _⟩ dX11_chance_18 (fun H locs hP hD hS => ?_)
  refine lv_if_ne (tgt := 26) hx hb dX11_chance_21 (by decide) (fun c_9 => ?_) (fun c_9 => ?_)
  · have hf := pbr_f c_9 hf
    refine lv_aload_n hx hb dX11_chance_26 rfl (lv_at hl 0 rfl) ?_
    refine va_get (D := D) (ci := 11) (v := .ref q_stories) (C := RX11) (T := TX11) (N := 11) hx hb hts hn_X11_chance_X11 hown hK hP 0 rfl rfl 6 (by decide) (hts _ hw_X11_chance_f59) (fun _ h9 => h9) rfl dX11_chance_27 ?_
    refine va_getN (D := D) (ci := 8) (v := .ref q_stories_chances) (C := RX8) (T := TX8) (N := 3) hx hb hts hn_X11_chance_X8 hown hK hP 1 rfl rfl 1 (by decide) (va_Nw.use rfl (hN _ nw_X11_317)) (fun _ h9 => h9) rfl dX11_chance_30 ?_
    refine lv_iload_n hx hb dX11_chance_33 rfl (lv_at hl 1 rfl) ?_
    obtain ⟨g_10, hf⟩ := pgd_e hf
    refine m_aald hx hb hK hP 2 rfl g_10 dX11_chance_34 ?_
    refine lv_iload_n hx hb dX11_chance_35 rfl (lv_at hl 2 rfl) ?_
    obtain ⟨g_11, hf⟩ := pgd_e hf
    refine m_rald (i := x1) hx hb hK hP rfl g_10 g_11 dX11_chance_36 ?_
    refine lv_topi (fun x4_12 ex4_12 => ?_)
    have hf := plt_e ex4_12 hf
    refine lv_istore (lv' := [(4, .int x4_12), (0, .ref a0), (1, .int x1), (2, .int x2), (3, .int x3)]) hx hb dX11_chance_37 hl (by decide) rfl (fun ls hl => ?_)
    refine lv_aload_n hx hb dX11_chance_39 rfl (lv_at hl 1 rfl) ?_
    refine va_get (D := D) (ci := 11) (v := .ref q_stories) (C := RX11) (T := TX11) (N := 11) hx hb hts hn_X11_chance_X11 hown hK hP 0 rfl rfl 6 (by decide) (hts _ hw_X11_chance_f59) (fun _ h9 => h9) rfl dX11_chance_40 ?_
    refine va_getN (D := D) (ci := 8) (v := .ref q_stories_chances) (C := RX8) (T := TX8) (N := 3) hx hb hts hn_X11_chance_X8 hown hK hP 1 rfl rfl 1 (by decide) (va_Nw.use rfl (hN _ nw_X11_317)) (fun _ h9 => h9) rfl dX11_chance_43 ?_
    refine lv_iload_n hx hb dX11_chance_46 rfl (lv_at hl 2 rfl) ?_
    refine m_aald hx hb hK hP 2 rfl g_10 dX11_chance_47 ?_
    refine lv_iload_n hx hb dX11_chance_48 rfl (lv_at hl 3 rfl) ?_
    refine lv_iload_n hx hb dX11_chance_49 rfl (lv_at hl 4 rfl) ?_
    refine m_rast (i := x1) hx hb hK hP hD hS rfl g_10 g_11 dX11_chance_50 (fun H locs hP hD hS => ?_)
    obtain ⟨f_13, ef_13⟩ : ∃ z : Nat → Nat → Int32, z = up2 s_stories_chances x1.toNatClampNeg x2.toNatClampNeg x3 := ⟨_, rfl⟩
    have hf := plt_e ef_13 hf
    have hP : va_P D vwCl (w_X11_chance a0 q_stories q_stories_chances q_text q_ocean q_trees q_found q_images q_search q_signs q_calendar q_draft q_stories_behind r_stories_chances cA s_yearOfNow f_13) H := by rw [ef_13]; exact hP
    have hD : va_D A (w_X11_chance a0 q_stories q_stories_chances q_text q_ocean q_trees q_found q_images q_search q_signs q_calendar q_draft q_stories_behind r_stories_chances cA s_yearOfNow f_13) := by rw [ef_13]; exact hD
    refine lv_iload hx hb dX11_chance_51 (lv_at hl 0 rfl) ?_
    obtain ⟨rfl, rfl⟩ := pe2 hf
    exact m_iret hx hb hr hlocks hP hS dX11_chance_53
  have hf := pbr_t c_9 hf
  refine lv_iconst (v := (-1 : Int32)) hx hb dX11_chance_24 (by decide) ?_
  obtain ⟨rfl, rfl⟩ := pe2 hf
  exact m_iret hx hb hr hlocks hP hS dX11_chance_25

/-! ===== OrphanWave.dug(II)I ===== -/
abbrev rm_X11_dug : Room := { frames := 2, cells := 0, slots := 0, locals := 55 }
abbrev wx_X11_dug (a0 : Nat) (q_found : Nat) (q_stories : Nat) (q_stories_behind : Nat) (q_found_weights : Nat) (q_stories_chances : Nat) (q_text : Nat) (q_ocean : Nat) (q_trees : Nat) (q_images : Nat) (q_search : Nat) (q_signs : Nat) (q_calendar : Nat) (q_draft : Nat) (q_found_books : Nat) (q_found_sheets : Nat) (q_found_known : Nat) (r_stories_chances : Nat → Nat) (cA : Nat → ClassId) (s_yearOfNow : Int32) (s_found_dugMarshes : Int32) (s_found_kept : Int32) (s_stories_behind : Nat → Int64) (s_found_weights : Nat → Int64) (s_stories_chances : Nat → Nat → Int32) : va_W := [(a0, .inr (11, [.ref q_text, .ref q_ocean, .ref q_trees, .ref q_found, .ref q_images, .ref q_search, .ref q_stories, .ref q_signs, .ref q_calendar, .ref q_draft, .int s_yearOfNow])), (q_found, .inr (2, [.ref q_found_books, .ref q_found_sheets, .ref q_found_known, .ref q_found_weights, .int s_found_dugMarshes, .int s_found_kept])), (q_stories, .inr (8, [.ref q_found, .ref q_stories_chances, .ref q_stories_behind])), (q_stories_behind, .inl (cA 2, 5, .inr (.inl s_stories_behind))), (q_found_weights, .inl (cA 2, 5, .inr (.inl s_found_weights))), (q_stories_chances, .inl (cA 5, 5, .inr (.inr (.inr (.inr (gro 5 r_stories_chances))))))]
abbrev w_X11_dug (a0 : Nat) (q_found : Nat) (q_stories : Nat) (q_stories_behind : Nat) (q_found_weights : Nat) (q_stories_chances : Nat) (q_text : Nat) (q_ocean : Nat) (q_trees : Nat) (q_images : Nat) (q_search : Nat) (q_signs : Nat) (q_calendar : Nat) (q_draft : Nat) (q_found_books : Nat) (q_found_sheets : Nat) (q_found_known : Nat) (r_stories_chances : Nat → Nat) (cA : Nat → ClassId) (s_yearOfNow : Int32) (s_found_dugMarshes : Int32) (s_found_kept : Int32) (s_stories_behind : Nat → Int64) (s_found_weights : Nat → Int64) (s_stories_chances : Nat → Nat → Int32) : va_W := [(a0, .inr (11, [.ref q_text, .ref q_ocean, .ref q_trees, .ref q_found, .ref q_images, .ref q_search, .ref q_stories, .ref q_signs, .ref q_calendar, .ref q_draft, .int s_yearOfNow])), (q_found, .inr (2, [.ref q_found_books, .ref q_found_sheets, .ref q_found_known, .ref q_found_weights, .int s_found_dugMarshes, .int s_found_kept])), (q_stories, .inr (8, [.ref q_found, .ref q_stories_chances, .ref q_stories_behind])), (q_stories_behind, .inl (cA 2, 5, .inr (.inl s_stories_behind))), (q_found_weights, .inl (cA 2, 5, .inr (.inl s_found_weights))), (q_stories_chances, .inl (cA 5, 5, .inr (.inr (.inr (.inr (gro 5 r_stories_chances))))))] ++ grw 5 r_stories_chances (cA 1) 6 s_stories_chances
theorem hn_X11_dug_X11 : ∀ w ∈ u_ws RX11 TX11 11, w ∈ wsX11_dug := by decide +kernel
theorem hw_X11_dug_f33 : Cond.fieldLink RX11 33 "OrphanWave" "found" "LOrphanWave$Findings;" ∈ wsX11_dug := by decide +kernel
theorem hw_X11_dug_f59 : Cond.fieldLink RX11 59 "OrphanWave" "stories" "LOrphanWave$Stories;" ∈ wsX11_dug := by decide +kernel

def f_X11_dug (x1 : Int32) (x2 : Int32) (s_found_dugMarshes : Int32) (s_stories_behind : Nat → Int64) (s_found_weights : Nat → Int64) (s_stories_chances : Nat → Nat → Int32) : Option ((Int32) × (Int32) × (Nat → Int64) × (Nat → Int64)) :=
  pcl (f_X11_isMarsh x1) (fun r_1 => (
  pbr (r_1 = 0)
    (some ((-1 : Int32), s_found_dugMarshes, s_stories_behind, s_found_weights))
    (pcl (f_X11_isBit x2) (fun r_4 => (
    pbr (r_4 = 0)
      (some ((-1 : Int32), s_found_dugMarshes, s_stories_behind, s_found_weights))
      (pcl (f_X2_isDug x1 s_found_dugMarshes) (fun r_7 => (
      pbr (r_7 = 0)
        (pcl (f_X8_weigh x1 x2 s_found_weights s_stories_behind s_stories_chances) (fun (r_10, behind_11) => (
        pbr (r_10 = (-1 : Int32))
          (pcl (f_X8_settle x1 s_found_dugMarshes behind_11 s_found_weights) (fun (found_dugMarshes_14, found_weights_15) => (
          pcl (f_X2_dugCount found_dugMarshes_14) (fun r_17 => (
          some (r_17, found_dugMarshes_14, behind_11, found_weights_15))))))
          (some (r_10, s_found_dugMarshes, behind_11, s_found_weights)))))
        (some ((-2 : Int32), s_found_dugMarshes, s_stories_behind, s_found_weights))))))))))

set_option maxRecDepth 100000 in
set_option maxHeartbeats 4000000 in
theorem ct_X11_dug (l : Launch) (D : va_G) (cA : Nat → ClassId) (x1 : Int32) (x2 : Int32) (a0 : Nat) (q_found : Nat) (q_stories : Nat) (q_stories_behind : Nat) (q_found_weights : Nat) (q_stories_chances : Nat) (q_text : Nat) (q_ocean : Nat) (q_trees : Nat) (q_images : Nat) (q_search : Nat) (q_signs : Nat) (q_calendar : Nat) (q_draft : Nat) (q_found_books : Nat) (q_found_sheets : Nat) (q_found_known : Nat) (r_stories_chances : Nat → Nat) (s_yearOfNow : Int32) (s_found_dugMarshes : Int32) (s_found_kept : Int32) (s_stories_behind : Nat → Int64) (s_found_weights : Nat → Int64) (s_stories_chances : Nat → Nat → Int32) (o_r : Int32) (o_found_dugMarshes : Int32) (o_stories_behind : Nat → Int64) (o_found_weights : Nat → Int64) (hf : f_X11_dug x1 x2 s_found_dugMarshes s_stories_behind s_found_weights s_stories_chances = some (o_r, o_found_dugMarshes, o_stories_behind, o_found_weights)) : CT l yX11_dug wsX11_dug rm_X11_dug D cA [.ref a0, .int x1, .int x2] (w_X11_dug a0 q_found q_stories q_stories_behind q_found_weights q_stories_chances q_text q_ocean q_trees q_images q_search q_signs q_calendar q_draft q_found_books q_found_sheets q_found_known r_stories_chances cA s_yearOfNow s_found_dugMarshes s_found_kept s_stories_behind s_found_weights s_stories_chances) (w_X11_dug a0 q_found q_stories q_stories_behind q_found_weights q_stories_chances q_text q_ocean q_trees q_images q_search q_signs q_calendar q_draft q_found_books q_found_sheets q_found_known r_stories_chances cA s_yearOfNow o_found_dugMarshes s_found_kept o_stories_behind o_found_weights s_stories_chances) (some (.int o_r)) := by
  refine CT.ofW (cc := cX11_dug) (maxL := 4) (ret := (some .int)) (by decide +kernel) rfl (Nat.le_of_ble_eq_true rfl) ?_
  intro p e s m below meth c A C0 hA hP hD ls hl
  have C0 : MX p s m [.ref a0, .int x1, .int x2].toArray meth c cX11_dug 4 wsX11_dug RX11 (some .int) D cA := C0
  have hl : lv_has ls 4 [(0, .ref a0), (1, .int x1), (2, .int x2)] := hl
  obtain ⟨hx, hb, hml, hown, hts, hr, hlocks, hX⟩ := id C0
  have hK := hX.1
  have hN := hX.2
  have hS : va_S A s.heap s.heap [] := va_S.rf
  unfold f_X11_dug at hf
  refine lv_iload_n hx hb dX11_dug_0 rfl (lv_at hl 1 rfl) ?_
  obtain ⟨r_1, hc_2, hf⟩ := pcl_e hf
  refine m_callS2 (As := [.int x1]) (rest := []) ⟨hx, hb, hml, hown, hts⟩ hX (ct_X11_isMarsh l D cA x1 r_1 hc_2) (va_cwS 1 hts gX11_dug_X11_isMarsh rfl rfl rfl (by decide +kernel) ⟨Nat.le_of_ble_eq_true rfl, Nat.le_of_ble_eq_true rfl⟩) hP hD hS hA [] [0, 1, 2, 3, 4, 5, 6, 7, 8, 9, 10] 11 (by decide) rfl rfl (WS' := (w_X11_dug a0 q_found q_stories q_stories_behind q_found_weights q_stories_chances q_text q_ocean q_trees q_images q_search q_signs q_calendar q_draft q_found_books q_found_sheets q_found_known r_stories_chances cA s_yearOfNow s_found_dugMarshes s_found_kept s_stories_behind s_found_weights s_stories_chances)) (WR := [(a0, .inr (11, [.ref q_text, .ref q_ocean, .ref q_trees, .ref q_found, .ref q_images, .ref q_search, .ref q_stories, .ref q_signs, .ref q_calendar, .ref q_draft, .int s_yearOfNow])), (q_found, .inr (2, [.ref q_found_books, .ref q_found_sheets, .ref q_found_known, .ref q_found_weights, .int s_found_dugMarshes, .int s_found_kept])), (q_stories, .inr (8, [.ref q_found, .ref q_stories_chances, .ref q_stories_behind])), (q_stories_behind, .inl (cA 2, 5, .inr (.inl s_stories_behind))), (q_found_weights, .inl (cA 2, 5, .inr (.inl s_found_weights))), (q_stories_chances, .inl (cA 5, 5, .inr (.inr (.inr (.inr (gro 5 r_stories_chances))))))] ++ grw 5 r_stories_chances (cA 1) 6 s_stories_chances) rfl rfl rfl rfl (by decide) (by decide) rfl hl.1 rfl (st' := [.int r_1]) rfl (Nat.le_of_ble_eq_true rfl) ⟨Nat.zero_le _, Nat.zero_le _⟩ dX11_dug_1 (fun H locs hP hD hS => ?_)
  refine lv_if_eq (tgt := 14) hx hb dX11_dug_4 (by decide) (fun c_3 => ?_) (fun c_3 => ?_)
  · have hf := pbr_t c_3 hf
    refine lv_iconst (v := (-1 : Int32)) hx hb dX11_dug_14 (by decide) ?_
    obtain ⟨rfl, rfl, rfl, rfl⟩ := pe4 hf
    exact m_iret hx hb hr hlocks hP hS dX11_dug_15
  have hf := pbr_f c_3 hf
  refine lv_iload_n hx hb dX11_dug_7 rfl (lv_at hl 2 rfl) ?_
  obtain ⟨r_4, hc_5, hf⟩ := pcl_e hf
  refine m_callS2 (As := [.int x2]) (rest := []) ⟨hx, hb, hml, hown, hts⟩ hX (ct_X11_isBit l D cA x2 r_4 hc_5) (va_cwS 1 hts gX11_dug_X11_isBit rfl rfl rfl (by decide +kernel) ⟨Nat.le_of_ble_eq_true rfl, Nat.le_of_ble_eq_true rfl⟩) hP hD hS hA [] [0, 1, 2, 3, 4, 5, 6, 7, 8, 9, 10] 11 (by decide) rfl rfl (WS' := (w_X11_dug a0 q_found q_stories q_stories_behind q_found_weights q_stories_chances q_text q_ocean q_trees q_images q_search q_signs q_calendar q_draft q_found_books q_found_sheets q_found_known r_stories_chances cA s_yearOfNow s_found_dugMarshes s_found_kept s_stories_behind s_found_weights s_stories_chances)) (WR := [(a0, .inr (11, [.ref q_text, .ref q_ocean, .ref q_trees, .ref q_found, .ref q_images, .ref q_search, .ref q_stories, .ref q_signs, .ref q_calendar, .ref q_draft, .int s_yearOfNow])), (q_found, .inr (2, [.ref q_found_books, .ref q_found_sheets, .ref q_found_known, .ref q_found_weights, .int s_found_dugMarshes, .int s_found_kept])), (q_stories, .inr (8, [.ref q_found, .ref q_stories_chances, .ref q_stories_behind])), (q_stories_behind, .inl (cA 2, 5, .inr (.inl s_stories_behind))), (q_found_weights, .inl (cA 2, 5, .inr (.inl s_found_weights))), (q_stories_chances, .inl (cA 5, 5, .inr (.inr (.inr (.inr (gro 5 r_stories_chances))))))] ++ grw 5 r_stories_chances (cA 1) 6 s_stories_chances) rfl rfl rfl rfl (by decide) (by decide) rfl hl.1 rfl (st' := [.int r_4]) rfl (Nat.le_of_ble_eq_true rfl) ⟨Nat.zero_le _, Nat.zero_le _⟩ dX11_dug_8 (fun H locs hP hD hS => ?_)
  refine lv_if_ne (tgt := 16) hx hb dX11_dug_11 (by decide) (fun c_6 => ?_) (fun c_6 => ?_)
  · have hf := pbr_f c_6 hf
    refine lv_aload_n hx hb dX11_dug_16 rfl (lv_at hl 0 rfl) ?_
    refine va_get (D := D) (ci := 11) (v := .ref q_found) (C := RX11) (T := TX11) (N := 11) hx hb hts hn_X11_dug_X11 hown hK hP 0 rfl rfl 3 (by decide) (hts _ hw_X11_dug_f33) (fun _ h9 => h9) rfl dX11_dug_17 ?_
    refine lv_iload_n hx hb dX11_dug_20 rfl (lv_at hl 1 rfl) ?_
    obtain ⟨r_7, hc_8, hf⟩ := pcl_e hf
    refine m_callV2 (As := [.int x1]) (rest := []) ⟨hx, hb, hml, hown, hts⟩ hX (ct_X2_isDug l D cA x1 q_found q_found_books q_found_sheets q_found_known q_found_weights s_found_dugMarshes s_found_kept r_7 hc_8) (cwV 1 hts gX11_dug_X2_isDug rfl rfl rfl (by decide +kernel) ⟨Nat.le_of_ble_eq_true rfl, Nat.le_of_ble_eq_true rfl⟩) hP hD hS hA [1] [0, 2, 3, 4, 5, 6, 7, 8, 9, 10] 11 (by decide) rfl rfl (WS' := (w_X11_dug a0 q_found q_stories q_stories_behind q_found_weights q_stories_chances q_text q_ocean q_trees q_images q_search q_signs q_calendar q_draft q_found_books q_found_sheets q_found_known r_stories_chances cA s_yearOfNow s_found_dugMarshes s_found_kept s_stories_behind s_found_weights s_stories_chances)) (WR := [(a0, .inr (11, [.ref q_text, .ref q_ocean, .ref q_trees, .ref q_found, .ref q_images, .ref q_search, .ref q_stories, .ref q_signs, .ref q_calendar, .ref q_draft, .int s_yearOfNow])), (q_stories, .inr (8, [.ref q_found, .ref q_stories_chances, .ref q_stories_behind])), (q_stories_behind, .inl (cA 2, 5, .inr (.inl s_stories_behind))), (q_found_weights, .inl (cA 2, 5, .inr (.inl s_found_weights))), (q_stories_chances, .inl (cA 5, 5, .inr (.inr (.inr (.inr (gro 5 r_stories_chances))))))] ++ grw 5 r_stories_chances (cA 1) 6 s_stories_chances) rfl rfl rfl rfl (by decide) (by decide) 1 2 rfl rfl rfl hl.1 rfl (st' := [.int r_7]) rfl (Nat.le_of_ble_eq_true rfl) ⟨Nat.zero_le _, Nat.zero_le _⟩ dX11_dug_21 (fun H locs hP hD hS => ?_)
    refine lv_if_eq (tgt := 30) hx hb dX11_dug_24 (by decide) (fun c_9 => ?_) (fun c_9 => ?_)
    · have hf := pbr_t c_9 hf
      refine lv_aload_n hx hb dX11_dug_30 rfl (lv_at hl 0 rfl) ?_
      refine va_get (D := D) (ci := 11) (v := .ref q_stories) (C := RX11) (T := TX11) (N := 11) hx hb hts hn_X11_dug_X11 hown hK hP 0 rfl rfl 6 (by decide) (hts _ hw_X11_dug_f59) (fun _ h9 => h9) rfl dX11_dug_31 ?_
      refine lv_iload_n hx hb dX11_dug_34 rfl (lv_at hl 1 rfl) ?_
      refine lv_iload_n hx hb dX11_dug_35 rfl (lv_at hl 2 rfl) ?_
      obtain ⟨⟨r_10, behind_11⟩, hc_12, hf⟩ := pcl_e hf
      refine m_callV2 (As := [.int x1, .int x2]) (rest := []) ⟨hx, hb, hml, hown, hts⟩ hX (ct_X8_weigh l D cA x1 x2 q_stories q_found q_found_weights q_stories_behind q_stories_chances q_found_books q_found_sheets q_found_known r_stories_chances s_found_dugMarshes s_found_kept s_found_weights s_stories_behind s_stories_chances r_10 behind_11 hc_12) (cwV 2 hts gX11_dug_X8_weigh rfl rfl rfl (by decide +kernel) ⟨Nat.le_of_ble_eq_true rfl, Nat.le_of_ble_eq_true rfl⟩) hP hD hS hA [2, 1, 4, 3, 5, 6, 7, 8, 9, 10] [0] 11 (by decide) rfl rfl (WS' := (w_X11_dug a0 q_found q_stories q_stories_behind q_found_weights q_stories_chances q_text q_ocean q_trees q_images q_search q_signs q_calendar q_draft q_found_books q_found_sheets q_found_known r_stories_chances cA s_yearOfNow s_found_dugMarshes s_found_kept behind_11 s_found_weights s_stories_chances)) (WR := [(a0, .inr (11, [.ref q_text, .ref q_ocean, .ref q_trees, .ref q_found, .ref q_images, .ref q_search, .ref q_stories, .ref q_signs, .ref q_calendar, .ref q_draft, .int s_yearOfNow]))]) rfl rfl rfl rfl (by decide) (by decide) 2 8 rfl rfl rfl hl.1 rfl (st' := [.int r_10]) rfl (Nat.le_of_ble_eq_true rfl) ⟨Nat.zero_le _, Nat.zero_le _⟩ dX11_dug_36 (fun H locs hP hD hS => ?_)
      refine lv_istore_n (lv' := [(3, .int r_10), (0, .ref a0), (1, .int x1), (2, .int x2)]) hx hb dX11_dug_39 rfl hl (by decide) rfl (fun ls hl => ?_)
      refine lv_iload_n hx hb dX11_dug_40 rfl (lv_at hl 0 rfl) ?_
      refine lv_iconst (v := (-1 : Int32)) hx hb dX11_dug_41 (by decide) ?_
      refine lv_icmp_eq (tgt := 47) hx hb dX11_dug_42 (by decide) (fun c_13 => ?_) (fun c_13 => ?_)
      · have hf := pbr_t c_13 hf
        refine lv_aload_n hx hb dX11_dug_47 rfl (lv_at hl 1 rfl) ?_
        refine va_get (D := D) (ci := 11) (v := .ref q_stories) (C := RX11) (T := TX11) (N := 11) hx hb hts hn_X11_dug_X11 hown hK hP 0 rfl rfl 6 (by decide) (hts _ hw_X11_dug_f59) (fun _ h9 => h9) rfl dX11_dug_48 ?_
        refine lv_iload_n hx hb dX11_dug_51 rfl (lv_at hl 2 rfl) ?_
        obtain ⟨⟨found_dugMarshes_14, found_weights_15⟩, hc_16, hf⟩ := pcl_e hf
        refine m_callV2 (As := [.int x1]) (rest := []) ⟨hx, hb, hml, hown, hts⟩ hX (ct_X8_settle l D cA x1 q_stories q_found q_stories_behind q_found_weights q_stories_chances q_found_books q_found_sheets q_found_known s_found_dugMarshes s_found_kept behind_11 s_found_weights found_dugMarshes_14 found_weights_15 hc_16) (cwV 1 hts gX11_dug_X8_settle rfl rfl rfl (by decide +kernel) ⟨Nat.le_of_ble_eq_true rfl, Nat.le_of_ble_eq_true rfl⟩) hP hD hS hA [2, 1, 3, 4] [0, 5, 6, 7, 8, 9, 10] 11 (by decide) rfl rfl (WS' := (w_X11_dug a0 q_found q_stories q_stories_behind q_found_weights q_stories_chances q_text q_ocean q_trees q_images q_search q_signs q_calendar q_draft q_found_books q_found_sheets q_found_known r_stories_chances cA s_yearOfNow found_dugMarshes_14 s_found_kept behind_11 found_weights_15 s_stories_chances)) (WR := [(a0, .inr (11, [.ref q_text, .ref q_ocean, .ref q_trees, .ref q_found, .ref q_images, .ref q_search, .ref q_stories, .ref q_signs, .ref q_calendar, .ref q_draft, .int s_yearOfNow])), (q_stories_chances, .inl (cA 5, 5, .inr (.inr (.inr (.inr (gro 5 r_stories_chances))))))] ++ grw 5 r_stories_chances (cA 1) 6 s_stories_chances) rfl rfl rfl rfl (by decide) (by decide) 2 8 rfl rfl rfl hl.1 rfl (st' := []) rfl (Nat.le_of_ble_eq_true rfl) ⟨Nat.zero_le _, Nat.zero_le _⟩ dX11_dug_52 (fun H locs hP hD hS => ?_)
        refine lv_aload_n hx hb dX11_dug_55 rfl (lv_at hl 1 rfl) ?_
        refine va_get (D := D) (ci := 11) (v := .ref q_found) (C := RX11) (T := TX11) (N := 11) hx hb hts hn_X11_dug_X11 hown hK hP 0 rfl rfl 3 (by decide) (hts _ hw_X11_dug_f33) (fun _ h9 => h9) rfl dX11_dug_56 ?_
        obtain ⟨r_17, hc_18, hf⟩ := pcl_e hf
        refine m_callV2 (As := []) (rest := []) ⟨hx, hb, hml, hown, hts⟩ hX (ct_X2_dugCount l D cA q_found q_found_books q_found_sheets q_found_known q_found_weights found_dugMarshes_14 s_found_kept r_17 hc_18) (cwV 0 hts gX11_dug_X2_dugCount rfl rfl rfl (by decide +kernel) ⟨Nat.le_of_ble_eq_true rfl, Nat.le_of_ble_eq_true rfl⟩) hP hD hS hA [1] [0, 2, 3, 4, 5, 6, 7, 8, 9, 10] 11 (by decide) rfl rfl (WS' := (w_X11_dug a0 q_found q_stories q_stories_behind q_found_weights q_stories_chances q_text q_ocean q_trees q_images q_search q_signs q_calendar q_draft q_found_books q_found_sheets q_found_known r_stories_chances cA s_yearOfNow found_dugMarshes_14 s_found_kept behind_11 found_weights_15 s_stories_chances)) (WR := [(a0, .inr (11, [.ref q_text, .ref q_ocean, .ref q_trees, .ref q_found, .ref q_images, .ref q_search, .ref q_stories, .ref q_signs, .ref q_calendar, .ref q_draft, .int s_yearOfNow])), (q_stories, .inr (8, [.ref q_found, .ref q_stories_chances, .ref q_stories_behind])), (q_stories_behind, .inl (cA 2, 5, .inr (.inl behind_11))), (q_found_weights, .inl (cA 2, 5, .inr (.inl found_weights_15))), (q_stories_chances, .inl (cA 5, 5, .inr (.inr (.inr (.inr (gro 5 r_stories_chances))))))] ++ grw 5 r_stories_chances (cA 1) 6 s_stories_chances) rfl rfl rfl rfl (by decide) (by decide) 1 2 rfl rfl rfl hl.1 rfl (st' := [.int r_17]) rfl (Nat.le_of_ble_eq_true rfl) ⟨Nat.zero_le _, Nat.zero_le _⟩ dX11_dug_59 (fun H locs hP hD hS => ?_)
        obtain ⟨rfl, rfl, rfl, rfl⟩ := pe4 hf
        exact m_iret hx hb hr hlocks hP hS dX11_dug_62
      have hf := pbr_f c_13 hf
      refine lv_iload_n hx hb dX11_dug_45 rfl (lv_at hl 0 rfl) ?_
      obtain ⟨rfl, rfl, rfl, rfl⟩ := pe4 hf
      exact m_iret hx hb hr hlocks hP hS dX11_dug_46
    have hf := pbr_f c_9 hf
    refine lv_bipush (v := (-2 : Int32)) hx hb dX11_dug_27 (by decide) ?_
    obtain ⟨rfl, rfl, rfl, rfl⟩ := pe4 hf
    exact m_iret hx hb hr hlocks hP hS dX11_dug_29
  have hf := pbr_t c_6 hf
  refine lv_iconst (v := (-1 : Int32)) hx hb dX11_dug_14 (by decide) ?_
  obtain ⟨rfl, rfl, rfl, rfl⟩ := pe4 hf
  exact m_iret hx hb hr hlocks hP hS dX11_dug_15

/-! ===== OrphanWave.believed(II)J ===== -/
abbrev rm_X11_believed : Room := { frames := 2, cells := 0, slots := 0, locals := 56 }
abbrev w_X11_believed (a0 : Nat) (q_stories : Nat) (q_found : Nat) (q_found_weights : Nat) (q_text : Nat) (q_ocean : Nat) (q_trees : Nat) (q_images : Nat) (q_search : Nat) (q_signs : Nat) (q_calendar : Nat) (q_draft : Nat) (q_stories_chances : Nat) (q_stories_behind : Nat) (q_found_books : Nat) (q_found_sheets : Nat) (q_found_known : Nat) (cA : Nat → ClassId) (s_yearOfNow : Int32) (s_found_dugMarshes : Int32) (s_found_kept : Int32) (s_found_weights : Nat → Int64) : va_W := [(a0, .inr (11, [.ref q_text, .ref q_ocean, .ref q_trees, .ref q_found, .ref q_images, .ref q_search, .ref q_stories, .ref q_signs, .ref q_calendar, .ref q_draft, .int s_yearOfNow])), (q_stories, .inr (8, [.ref q_found, .ref q_stories_chances, .ref q_stories_behind])), (q_found, .inr (2, [.ref q_found_books, .ref q_found_sheets, .ref q_found_known, .ref q_found_weights, .int s_found_dugMarshes, .int s_found_kept])), (q_found_weights, .inl (cA 2, 5, .inr (.inl s_found_weights)))]
theorem hn_X11_believed_X11 : ∀ w ∈ u_ws RX11 TX11 11, w ∈ wsX11_believed := by decide +kernel
theorem hw_X11_believed_c311 : Cond.constantLong RX11 311 (-1) ∈ wsX11_believed := by decide +kernel
theorem hw_X11_believed_f59 : Cond.fieldLink RX11 59 "OrphanWave" "stories" "LOrphanWave$Stories;" ∈ wsX11_believed := by decide +kernel

def f_X11_believed (x1 : Int32) (x2 : Int32) (s_found_weights : Nat → Int64) : Option ((Int64)) :=
  pcl (f_X11_isStory x1) (fun r_1 => (
  pbr (r_1 = 0)
    (some ((-1 : Int64)))
    (pcl (f_X11_isBit x2) (fun r_4 => (
    pbr (r_4 = 0)
      (some ((-1 : Int64)))
      (pcl (f_X8_part x1 x2 s_found_weights) (fun r_7 => (
      some (r_7)))))))))

set_option maxRecDepth 100000 in
set_option maxHeartbeats 4000000 in
theorem ct_X11_believed (l : Launch) (D : va_G) (cA : Nat → ClassId) (x1 : Int32) (x2 : Int32) (a0 : Nat) (q_stories : Nat) (q_found : Nat) (q_found_weights : Nat) (q_text : Nat) (q_ocean : Nat) (q_trees : Nat) (q_images : Nat) (q_search : Nat) (q_signs : Nat) (q_calendar : Nat) (q_draft : Nat) (q_stories_chances : Nat) (q_stories_behind : Nat) (q_found_books : Nat) (q_found_sheets : Nat) (q_found_known : Nat) (s_yearOfNow : Int32) (s_found_dugMarshes : Int32) (s_found_kept : Int32) (s_found_weights : Nat → Int64) (o_r : Int64) (hf : f_X11_believed x1 x2 s_found_weights = some o_r) : CT l yX11_believed wsX11_believed rm_X11_believed D cA [.ref a0, .int x1, .int x2] (w_X11_believed a0 q_stories q_found q_found_weights q_text q_ocean q_trees q_images q_search q_signs q_calendar q_draft q_stories_chances q_stories_behind q_found_books q_found_sheets q_found_known cA s_yearOfNow s_found_dugMarshes s_found_kept s_found_weights) (w_X11_believed a0 q_stories q_found q_found_weights q_text q_ocean q_trees q_images q_search q_signs q_calendar q_draft q_stories_chances q_stories_behind q_found_books q_found_sheets q_found_known cA s_yearOfNow s_found_dugMarshes s_found_kept s_found_weights) (some (.long o_r)) := by
  refine CT.ofW (cc := cX11_believed) (maxL := 3) (ret := (some .long)) (by decide +kernel) rfl (Nat.le_of_ble_eq_true rfl) ?_
  intro p e s m below meth c A C0 hA hP hD ls hl
  have C0 : MX p s m [.ref a0, .int x1, .int x2].toArray meth c cX11_believed 3 wsX11_believed RX11 (some .long) D cA := C0
  have hl : lv_has ls 3 [(0, .ref a0), (1, .int x1), (2, .int x2)] := hl
  obtain ⟨hx, hb, hml, hown, hts, hr, hlocks, hX⟩ := id C0
  have hK := hX.1
  have hN := hX.2
  have hS : va_S A s.heap s.heap [] := va_S.rf
  unfold f_X11_believed at hf
  refine lv_iload_n hx hb dX11_believed_0 rfl (lv_at hl 1 rfl) ?_
  obtain ⟨r_1, hc_2, hf⟩ := pcl_e hf
  refine m_callS2 (As := [.int x1]) (rest := []) ⟨hx, hb, hml, hown, hts⟩ hX (ct_X11_isStory l D cA x1 r_1 hc_2) (va_cwS 1 hts gX11_believed_X11_isStory rfl rfl rfl (by decide +kernel) ⟨Nat.le_of_ble_eq_true rfl, Nat.le_of_ble_eq_true rfl⟩) hP hD hS hA [] [0, 1, 2, 3] 4 (by decide) rfl rfl (WS' := (w_X11_believed a0 q_stories q_found q_found_weights q_text q_ocean q_trees q_images q_search q_signs q_calendar q_draft q_stories_chances q_stories_behind q_found_books q_found_sheets q_found_known cA s_yearOfNow s_found_dugMarshes s_found_kept s_found_weights)) (WR := [(a0, .inr (11, [.ref q_text, .ref q_ocean, .ref q_trees, .ref q_found, .ref q_images, .ref q_search, .ref q_stories, .ref q_signs, .ref q_calendar, .ref q_draft, .int s_yearOfNow])), (q_stories, .inr (8, [.ref q_found, .ref q_stories_chances, .ref q_stories_behind])), (q_found, .inr (2, [.ref q_found_books, .ref q_found_sheets, .ref q_found_known, .ref q_found_weights, .int s_found_dugMarshes, .int s_found_kept])), (q_found_weights, .inl (cA 2, 5, .inr (.inl s_found_weights)))]) rfl rfl rfl rfl (by decide) (by decide) rfl hl.1 rfl (st' := [.int r_1]) rfl (Nat.le_of_ble_eq_true rfl) ⟨Nat.zero_le _, Nat.zero_le _⟩ dX11_believed_1 (fun H locs hP hD hS => ?_)
  refine lv_if_eq (tgt := 14) hx hb dX11_believed_4 (by decide) (fun c_3 => ?_) (fun c_3 => ?_)
  · have hf := pbr_t c_3 hf
    refine lv_ldc2 (v := (-1 : Int64)) hx hb hown (hts _ hw_X11_believed_c311) dX11_believed_14 ?_
    obtain rfl := pe1 hf
    exact m_lret hx hb hr hlocks hP hS dX11_believed_17
  have hf := pbr_f c_3 hf
  refine lv_iload_n hx hb dX11_believed_7 rfl (lv_at hl 2 rfl) ?_
  obtain ⟨r_4, hc_5, hf⟩ := pcl_e hf
  refine m_callS2 (As := [.int x2]) (rest := []) ⟨hx, hb, hml, hown, hts⟩ hX (ct_X11_isBit l D cA x2 r_4 hc_5) (va_cwS 1 hts gX11_believed_X11_isBit rfl rfl rfl (by decide +kernel) ⟨Nat.le_of_ble_eq_true rfl, Nat.le_of_ble_eq_true rfl⟩) hP hD hS hA [] [0, 1, 2, 3] 4 (by decide) rfl rfl (WS' := (w_X11_believed a0 q_stories q_found q_found_weights q_text q_ocean q_trees q_images q_search q_signs q_calendar q_draft q_stories_chances q_stories_behind q_found_books q_found_sheets q_found_known cA s_yearOfNow s_found_dugMarshes s_found_kept s_found_weights)) (WR := [(a0, .inr (11, [.ref q_text, .ref q_ocean, .ref q_trees, .ref q_found, .ref q_images, .ref q_search, .ref q_stories, .ref q_signs, .ref q_calendar, .ref q_draft, .int s_yearOfNow])), (q_stories, .inr (8, [.ref q_found, .ref q_stories_chances, .ref q_stories_behind])), (q_found, .inr (2, [.ref q_found_books, .ref q_found_sheets, .ref q_found_known, .ref q_found_weights, .int s_found_dugMarshes, .int s_found_kept])), (q_found_weights, .inl (cA 2, 5, .inr (.inl s_found_weights)))]) rfl rfl rfl rfl (by decide) (by decide) rfl hl.1 rfl (st' := [.int r_4]) rfl (Nat.le_of_ble_eq_true rfl) ⟨Nat.zero_le _, Nat.zero_le _⟩ dX11_believed_8 (fun H locs hP hD hS => ?_)
  refine lv_if_ne (tgt := 18) hx hb dX11_believed_11 (by decide) (fun c_6 => ?_) (fun c_6 => ?_)
  · have hf := pbr_f c_6 hf
    refine lv_aload_n hx hb dX11_believed_18 rfl (lv_at hl 0 rfl) ?_
    refine va_get (D := D) (ci := 11) (v := .ref q_stories) (C := RX11) (T := TX11) (N := 11) hx hb hts hn_X11_believed_X11 hown hK hP 0 rfl rfl 6 (by decide) (hts _ hw_X11_believed_f59) (fun _ h9 => h9) rfl dX11_believed_19 ?_
    refine lv_iload_n hx hb dX11_believed_22 rfl (lv_at hl 1 rfl) ?_
    refine lv_iload_n hx hb dX11_believed_23 rfl (lv_at hl 2 rfl) ?_
    obtain ⟨r_7, hc_8, hf⟩ := pcl_e hf
    refine m_callV2 (As := [.int x1, .int x2]) (rest := []) ⟨hx, hb, hml, hown, hts⟩ hX (ct_X8_part l D cA x1 x2 q_stories q_found q_found_weights q_stories_chances q_stories_behind q_found_books q_found_sheets q_found_known s_found_dugMarshes s_found_kept s_found_weights r_7 hc_8) (cwV 2 hts gX11_believed_X8_part rfl rfl rfl (by decide +kernel) ⟨Nat.le_of_ble_eq_true rfl, Nat.le_of_ble_eq_true rfl⟩) hP hD hS hA [1, 2, 3] [0] 4 (by decide) rfl rfl (WS' := (w_X11_believed a0 q_stories q_found q_found_weights q_text q_ocean q_trees q_images q_search q_signs q_calendar q_draft q_stories_chances q_stories_behind q_found_books q_found_sheets q_found_known cA s_yearOfNow s_found_dugMarshes s_found_kept s_found_weights)) (WR := [(a0, .inr (11, [.ref q_text, .ref q_ocean, .ref q_trees, .ref q_found, .ref q_images, .ref q_search, .ref q_stories, .ref q_signs, .ref q_calendar, .ref q_draft, .int s_yearOfNow]))]) rfl rfl rfl rfl (by decide) (by decide) 1 8 rfl rfl rfl hl.1 rfl (st' := [.long r_7]) rfl (Nat.le_of_ble_eq_true rfl) ⟨Nat.zero_le _, Nat.zero_le _⟩ dX11_believed_24 (fun H locs hP hD hS => ?_)
    obtain rfl := pe1 hf
    exact m_lret hx hb hr hlocks hP hS dX11_believed_27
  have hf := pbr_t c_6 hf
  refine lv_ldc2 (v := (-1 : Int64)) hx hb hown (hts _ hw_X11_believed_c311) dX11_believed_14 ?_
  obtain rfl := pe1 hf
  exact m_lret hx hb hr hlocks hP hS dX11_believed_17
