/-! ===== OrphanWave.wood(II)I ===== -/
abbrev rm_X11_wood : Room := { frames := 2, cells := 0, slots := 0, locals := 42 }
abbrev wx_X11_wood (a0 : Nat) (q_trees : Nat) (q_trees_woodCounts : Nat) (q_trees_woodRings : Nat) (q_text : Nat) (q_ocean : Nat) (q_found : Nat) (q_images : Nat) (q_search : Nat) (q_stories : Nat) (q_signs : Nat) (q_calendar : Nat) (q_draft : Nat) (q_trees_livingRings : Nat) (q_trees_ends : Nat) (r_trees_woodRings : Nat → Nat) (cA : Nat → ClassId) (s_yearOfNow : Int32) (s_trees_livingCount : Int32) (s_trees_firstYear : Int32) (s_trees_woodCounts : Nat → Int32) (s_trees_woodRings : Nat → Nat → Int32) : va_W := [(a0, .inr (11, [.ref q_text, .ref q_ocean, .ref q_trees, .ref q_found, .ref q_images, .ref q_search, .ref q_stories, .ref q_signs, .ref q_calendar, .ref q_draft, .int s_yearOfNow])), (q_trees, .inr (10, [.ref q_trees_livingRings, .ref q_trees_woodRings, .ref q_trees_woodCounts, .ref q_trees_ends, .int s_trees_livingCount, .int s_trees_firstYear])), (q_trees_woodCounts, .inl (cA 1, 4, .inl s_trees_woodCounts)), (q_trees_woodRings, .inl (cA 5, 4, .inr (.inr (.inr (.inr (gro 4 r_trees_woodRings))))))]
abbrev w_X11_wood (a0 : Nat) (q_trees : Nat) (q_trees_woodCounts : Nat) (q_trees_woodRings : Nat) (q_text : Nat) (q_ocean : Nat) (q_found : Nat) (q_images : Nat) (q_search : Nat) (q_stories : Nat) (q_signs : Nat) (q_calendar : Nat) (q_draft : Nat) (q_trees_livingRings : Nat) (q_trees_ends : Nat) (r_trees_woodRings : Nat → Nat) (cA : Nat → ClassId) (s_yearOfNow : Int32) (s_trees_livingCount : Int32) (s_trees_firstYear : Int32) (s_trees_woodCounts : Nat → Int32) (s_trees_woodRings : Nat → Nat → Int32) : va_W := [(a0, .inr (11, [.ref q_text, .ref q_ocean, .ref q_trees, .ref q_found, .ref q_images, .ref q_search, .ref q_stories, .ref q_signs, .ref q_calendar, .ref q_draft, .int s_yearOfNow])), (q_trees, .inr (10, [.ref q_trees_livingRings, .ref q_trees_woodRings, .ref q_trees_woodCounts, .ref q_trees_ends, .int s_trees_livingCount, .int s_trees_firstYear])), (q_trees_woodCounts, .inl (cA 1, 4, .inl s_trees_woodCounts)), (q_trees_woodRings, .inl (cA 5, 4, .inr (.inr (.inr (.inr (gro 4 r_trees_woodRings))))))] ++ grw 4 r_trees_woodRings (cA 1) 30 s_trees_woodRings
theorem hn_X11_wood_X11 : ∀ w ∈ u_ws RX11 TX11 11, w ∈ wsX11_wood := by decide +kernel
theorem hn_X11_wood_X10 : ∀ w ∈ u_ws RX10 TX10 6, w ∈ wsX11_wood := by decide +kernel
theorem hw_X11_wood_f26 : Cond.fieldLink RX11 26 "OrphanWave" "trees" "LOrphanWave$Trees;" ∈ wsX11_wood := by decide +kernel

def f_X11_wood (x1 : Int32) (x2 : Int32) (s_trees_woodCounts : Nat → Int32) (s_trees_woodRings : Nat → Nat → Int32) : Option ((Int32) × (Nat → Int32) × (Nat → Nat → Int32)) :=
  pcl (f_X11_isWood x1) (fun r_1 => (
  pbr (r_1 = 0)
    (some ((-1 : Int32), s_trees_woodCounts, s_trees_woodRings))
    (pcl (f_X11_isWidth x2) (fun r_4 => (
    pbr (r_4 = 0)
      (some ((-1 : Int32), s_trees_woodCounts, s_trees_woodRings))
      (pgd (pin x1 4) (
      pbr ((s_trees_woodCounts x1.toNatClampNeg) < (30 : Int32))
        (pcl (f_X10_growWood x1 x2 s_trees_woodCounts s_trees_woodRings) (fun (r_9, woodCounts_10, woodRings_11) => (
        some (r_9, woodCounts_10, woodRings_11))))
        (some ((-3 : Int32), s_trees_woodCounts, s_trees_woodRings)))))))))

set_option maxRecDepth 100000 in
set_option maxHeartbeats 4000000 in
theorem ct_X11_wood (l : Launch) (D : va_G) (cA : Nat → ClassId) (x1 : Int32) (x2 : Int32) (a0 : Nat) (q_trees : Nat) (q_trees_woodCounts : Nat) (q_trees_woodRings : Nat) (q_text : Nat) (q_ocean : Nat) (q_found : Nat) (q_images : Nat) (q_search : Nat) (q_stories : Nat) (q_signs : Nat) (q_calendar : Nat) (q_draft : Nat) (q_trees_livingRings : Nat) (q_trees_ends : Nat) (r_trees_woodRings : Nat → Nat) (s_yearOfNow : Int32) (s_trees_livingCount : Int32) (s_trees_firstYear : Int32) (s_trees_woodCounts : Nat → Int32) (s_trees_woodRings : Nat → Nat → Int32) (o_r : Int32) (o_trees_woodCounts : Nat → Int32) (o_trees_woodRings : Nat → Nat → Int32) (hf : f_X11_wood x1 x2 s_trees_woodCounts s_trees_woodRings = some (o_r, o_trees_woodCounts, o_trees_woodRings)) : CT l yX11_wood wsX11_wood rm_X11_wood D cA [.ref a0, .int x1, .int x2] (w_X11_wood a0 q_trees q_trees_woodCounts q_trees_woodRings q_text q_ocean q_found q_images q_search q_stories q_signs q_calendar q_draft q_trees_livingRings q_trees_ends r_trees_woodRings cA s_yearOfNow s_trees_livingCount s_trees_firstYear s_trees_woodCounts s_trees_woodRings) (w_X11_wood a0 q_trees q_trees_woodCounts q_trees_woodRings q_text q_ocean q_found q_images q_search q_stories q_signs q_calendar q_draft q_trees_livingRings q_trees_ends r_trees_woodRings cA s_yearOfNow s_trees_livingCount s_trees_firstYear o_trees_woodCounts o_trees_woodRings) (some (.int o_r)) := by
  refine CT.ofW (cc := cX11_wood) (maxL := 3) (ret := (some .int)) (by decide +kernel) rfl (Nat.le_of_ble_eq_true rfl) ?_
  intro p e s m below meth c A C0 hA hP hD ls hl
  have C0 : MX p s m [.ref a0, .int x1, .int x2].toArray meth c cX11_wood 3 wsX11_wood RX11 (some .int) D cA := C0
  have hl : lv_has ls 3 [(0, .ref a0), (1, .int x1), (2, .int x2)] := hl
  obtain ⟨hx, hb, hml, hown, hts, hr, hlocks, hX⟩ := id C0
  have hK := hX.1
  have hN := hX.2
  have hS : va_S A s.heap s.heap [] := va_S.rf
  unfold f_X11_wood at hf
  refine lv_iload_n hx hb dX11_wood_0 rfl (lv_at hl 1 rfl) ?_
  obtain ⟨r_1, hc_2, hf⟩ := pcl_e hf
  refine m_callS2 (As := [.int x1]) (rest := []) ⟨hx, hb, hml, hown, hts⟩ hX (ct_X11_isWood l D cA x1 r_1 hc_2) (va_cwS 1 hts gX11_wood_X11_isWood rfl rfl rfl (by decide +kernel) ⟨Nat.le_of_ble_eq_true rfl, Nat.le_of_ble_eq_true rfl⟩) hP hD hS hA [] [0, 1, 2, 3, 4, 5, 6, 7] 8 (by decide) rfl rfl (WS' := (w_X11_wood a0 q_trees q_trees_woodCounts q_trees_woodRings q_text q_ocean q_found q_images q_search q_stories q_signs q_calendar q_draft q_trees_livingRings q_trees_ends r_trees_woodRings cA s_yearOfNow s_trees_livingCount s_trees_firstYear s_trees_woodCounts s_trees_woodRings)) (WR := [(a0, .inr (11, [.ref q_text, .ref q_ocean, .ref q_trees, .ref q_found, .ref q_images, .ref q_search, .ref q_stories, .ref q_signs, .ref q_calendar, .ref q_draft, .int s_yearOfNow])), (q_trees, .inr (10, [.ref q_trees_livingRings, .ref q_trees_woodRings, .ref q_trees_woodCounts, .ref q_trees_ends, .int s_trees_livingCount, .int s_trees_firstYear])), (q_trees_woodCounts, .inl (cA 1, 4, .inl s_trees_woodCounts)), (q_trees_woodRings, .inl (cA 5, 4, .inr (.inr (.inr (.inr (gro 4 r_trees_woodRings))))))] ++ grw 4 r_trees_woodRings (cA 1) 30 s_trees_woodRings) rfl rfl rfl rfl (by decide) (by decide) rfl hl.1 rfl (st' := [.int r_1]) rfl (Nat.le_of_ble_eq_true rfl) ⟨Nat.zero_le _, Nat.zero_le _⟩ dX11_wood_1 (fun H locs hP hD hS => ?_)
  refine lv_if_eq (tgt := 14) hx hb dX11_wood_4 (by decide) (fun c_3 => ?_) (fun c_3 => ?_)
  · have hf := pbr_t c_3 hf
    refine lv_iconst (v := (-1 : Int32)) hx hb dX11_wood_14 (by decide) ?_
    obtain ⟨rfl, rfl, rfl⟩ := pe3 hf
    exact m_iret hx hb hr hlocks hP hS dX11_wood_15
  have hf := pbr_f c_3 hf
  refine lv_iload_n hx hb dX11_wood_7 rfl (lv_at hl 2 rfl) ?_
  obtain ⟨r_4, hc_5, hf⟩ := pcl_e hf
  refine m_callS2 (As := [.int x2]) (rest := []) ⟨hx, hb, hml, hown, hts⟩ hX (ct_X11_isWidth l D cA x2 r_4 hc_5) (va_cwS 1 hts gX11_wood_X11_isWidth rfl rfl rfl (by decide +kernel) ⟨Nat.le_of_ble_eq_true rfl, Nat.le_of_ble_eq_true rfl⟩) hP hD hS hA [] [0, 1, 2, 3, 4, 5, 6, 7] 8 (by decide) rfl rfl (WS' := (w_X11_wood a0 q_trees q_trees_woodCounts q_trees_woodRings q_text q_ocean q_found q_images q_search q_stories q_signs q_calendar q_draft q_trees_livingRings q_trees_ends r_trees_woodRings cA s_yearOfNow s_trees_livingCount s_trees_firstYear s_trees_woodCounts s_trees_woodRings)) (WR := [(a0, .inr (11, [.ref q_text, .ref q_ocean, .ref q_trees, .ref q_found, .ref q_images, .ref q_search, .ref q_stories, .ref q_signs, .ref q_calendar, .ref q_draft, .int s_yearOfNow])), (q_trees, .inr (10, [.ref q_trees_livingRings, .ref q_trees_woodRings, .ref q_trees_woodCounts, .ref q_trees_ends, .int s_trees_livingCount, .int s_trees_firstYear])), (q_trees_woodCounts, .inl (cA 1, 4, .inl s_trees_woodCounts)), (q_trees_woodRings, .inl (cA 5, 4, .inr (.inr (.inr (.inr (gro 4 r_trees_woodRings))))))] ++ grw 4 r_trees_woodRings (cA 1) 30 s_trees_woodRings) rfl rfl rfl rfl (by decide) (by decide) rfl hl.1 rfl (st' := [.int r_4]) rfl (Nat.le_of_ble_eq_true rfl) ⟨Nat.zero_le _, Nat.zero_le _⟩ dX11_wood_8 (fun H locs hP hD hS => ?_)
  refine lv_if_ne (tgt := 16) hx hb dX11_wood_11 (by decide) (fun c_6 => ?_) (fun c_6 => ?_)
  · have hf := pbr_f c_6 hf
    refine lv_aload_n hx hb dX11_wood_16 rfl (lv_at hl 0 rfl) ?_
    refine va_get (D := D) (ci := 11) (v := .ref q_trees) (C := RX11) (T := TX11) (N := 11) hx hb hts hn_X11_wood_X11 hown hK hP 0 rfl rfl 2 (by decide) (hts _ hw_X11_wood_f26) (fun _ h9 => h9) rfl dX11_wood_17 ?_
    refine va_getN (D := D) (ci := 10) (v := .ref q_trees_woodCounts) (C := RX10) (T := TX10) (N := 6) hx hb hts hn_X11_wood_X10 hown hK hP 1 rfl rfl 2 (by decide) (va_Nw.use rfl (hN _ nw_X11_216)) (fun _ h9 => h9) rfl dX11_wood_20 ?_
    refine lv_iload_n hx hb dX11_wood_23 rfl (lv_at hl 1 rfl) ?_
    obtain ⟨g_7, hf⟩ := pgd_e hf
    refine va_iald hx hb hK hP 2 1 rfl rfl g_7 dX11_wood_24 ?_
    refine lv_bipush (v := (30 : Int32)) hx hb dX11_wood_25 (by decide) ?_
    refine lv_icmp_lt (tgt := 35) hx hb dX11_wood_27 (by decide) (fun c_8 => ?_) (fun c_8 => ?_)
    · have hf := pbr_t c_8 hf
      refine lv_aload_n hx hb dX11_wood_35 rfl (lv_at hl 0 rfl) ?_
      refine va_get (D := D) (ci := 11) (v := .ref q_trees) (C := RX11) (T := TX11) (N := 11) hx hb hts hn_X11_wood_X11 hown hK hP 0 rfl rfl 2 (by decide) (hts _ hw_X11_wood_f26) (fun _ h9 => h9) rfl dX11_wood_36 ?_
      refine lv_iload_n hx hb dX11_wood_39 rfl (lv_at hl 1 rfl) ?_
      refine lv_iload_n hx hb dX11_wood_40 rfl (lv_at hl 2 rfl) ?_
      obtain ⟨⟨r_9, woodCounts_10, woodRings_11⟩, hc_12, hf⟩ := pcl_e hf
      refine m_callV2 (As := [.int x1, .int x2]) (rest := []) ⟨hx, hb, hml, hown, hts⟩ hX (ct_X10_growWood l D cA x1 x2 q_trees q_trees_woodCounts q_trees_woodRings q_trees_livingRings q_trees_ends r_trees_woodRings s_trees_livingCount s_trees_firstYear s_trees_woodCounts s_trees_woodRings r_9 woodCounts_10 woodRings_11 hc_12) (cwV 2 hts gX11_wood_X10_growWood rfl rfl rfl (by decide +kernel) ⟨Nat.le_of_ble_eq_true rfl, Nat.le_of_ble_eq_true rfl⟩) hP hD hS hA [1, 2, 3, 4, 5, 6, 7] [0] 8 (by decide) rfl rfl (WS' := (w_X11_wood a0 q_trees q_trees_woodCounts q_trees_woodRings q_text q_ocean q_found q_images q_search q_stories q_signs q_calendar q_draft q_trees_livingRings q_trees_ends r_trees_woodRings cA s_yearOfNow s_trees_livingCount s_trees_firstYear woodCounts_10 woodRings_11)) (WR := [(a0, .inr (11, [.ref q_text, .ref q_ocean, .ref q_trees, .ref q_found, .ref q_images, .ref q_search, .ref q_stories, .ref q_signs, .ref q_calendar, .ref q_draft, .int s_yearOfNow]))]) rfl rfl rfl rfl (by decide) (by decide) 1 10 rfl rfl rfl hl.1 rfl (st' := [.int r_9]) rfl (Nat.le_of_ble_eq_true rfl) ⟨Nat.zero_le _, Nat.zero_le _⟩ dX11_wood_41 (fun H locs hP hD hS => ?_)
      obtain ⟨rfl, rfl, rfl⟩ := pe3 hf
      exact m_iret hx hb hr hlocks hP hS dX11_wood_44
    have hf := pbr_f c_8 hf
    refine lv_bipush (v := (-3 : Int32)) hx hb dX11_wood_30 (by decide) ?_
    refine lv_goto (tgt := 44) hx hb dX11_wood_32 (by decide) ?_
    obtain ⟨rfl, rfl, rfl⟩ := pe3 hf
    exact m_iret hx hb hr hlocks hP hS dX11_wood_44
  have hf := pbr_t c_6 hf
  refine lv_iconst (v := (-1 : Int32)) hx hb dX11_wood_14 (by decide) ?_
  obtain ⟨rfl, rfl, rfl⟩ := pe3 hf
  exact m_iret hx hb hr hlocks hP hS dX11_wood_15

/-! ===== OrphanWave.felled(II)I ===== -/
abbrev rm_X11_felled : Room := { frames := 2, cells := 0, slots := 0, locals := 42 }
abbrev w_X11_felled (a0 : Nat) (q_trees : Nat) (q_trees_woodCounts : Nat) (q_trees_ends : Nat) (q_text : Nat) (q_ocean : Nat) (q_found : Nat) (q_images : Nat) (q_search : Nat) (q_stories : Nat) (q_signs : Nat) (q_calendar : Nat) (q_draft : Nat) (q_trees_livingRings : Nat) (q_trees_woodRings : Nat) (cA : Nat → ClassId) (s_yearOfNow : Int32) (s_trees_livingCount : Int32) (s_trees_firstYear : Int32) (s_trees_woodCounts : Nat → Int32) (s_trees_ends : Nat → Int32) : va_W := [(a0, .inr (11, [.ref q_text, .ref q_ocean, .ref q_trees, .ref q_found, .ref q_images, .ref q_search, .ref q_stories, .ref q_signs, .ref q_calendar, .ref q_draft, .int s_yearOfNow])), (q_trees, .inr (10, [.ref q_trees_livingRings, .ref q_trees_woodRings, .ref q_trees_woodCounts, .ref q_trees_ends, .int s_trees_livingCount, .int s_trees_firstYear])), (q_trees_woodCounts, .inl (cA 1, 4, .inl s_trees_woodCounts)), (q_trees_ends, .inl (cA 1, 4, .inl s_trees_ends))]
theorem hn_X11_felled_X11 : ∀ w ∈ u_ws RX11 TX11 11, w ∈ wsX11_felled := by decide +kernel
theorem hw_X11_felled_f26 : Cond.fieldLink RX11 26 "OrphanWave" "trees" "LOrphanWave$Trees;" ∈ wsX11_felled := by decide +kernel

def f_X11_felled (x1 : Int32) (x2 : Int32) (s_trees_woodCounts : Nat → Int32) (s_trees_ends : Nat → Int32) : Option ((Int32) × (Nat → Int32) × (Nat → Int32)) :=
  pcl (f_X11_isWood x1) (fun r_1 => (
  pbr (r_1 = 0)
    (some ((-1 : Int32), s_trees_woodCounts, s_trees_ends))
    (pcl (f_X11_isBit x2) (fun r_4 => (
    pbr (r_4 = 0)
      (some ((-1 : Int32), s_trees_woodCounts, s_trees_ends))
      (pcl (f_X10_startWood x1 x2 s_trees_woodCounts s_trees_ends) (fun (r_7, woodCounts_8, ends_9) => (
      some (r_7, woodCounts_8, ends_9)))))))))

set_option maxRecDepth 100000 in
set_option maxHeartbeats 4000000 in
theorem ct_X11_felled (l : Launch) (D : va_G) (cA : Nat → ClassId) (x1 : Int32) (x2 : Int32) (a0 : Nat) (q_trees : Nat) (q_trees_woodCounts : Nat) (q_trees_ends : Nat) (q_text : Nat) (q_ocean : Nat) (q_found : Nat) (q_images : Nat) (q_search : Nat) (q_stories : Nat) (q_signs : Nat) (q_calendar : Nat) (q_draft : Nat) (q_trees_livingRings : Nat) (q_trees_woodRings : Nat) (s_yearOfNow : Int32) (s_trees_livingCount : Int32) (s_trees_firstYear : Int32) (s_trees_woodCounts : Nat → Int32) (s_trees_ends : Nat → Int32) (o_r : Int32) (o_trees_woodCounts : Nat → Int32) (o_trees_ends : Nat → Int32) (hf : f_X11_felled x1 x2 s_trees_woodCounts s_trees_ends = some (o_r, o_trees_woodCounts, o_trees_ends)) : CT l yX11_felled wsX11_felled rm_X11_felled D cA [.ref a0, .int x1, .int x2] (w_X11_felled a0 q_trees q_trees_woodCounts q_trees_ends q_text q_ocean q_found q_images q_search q_stories q_signs q_calendar q_draft q_trees_livingRings q_trees_woodRings cA s_yearOfNow s_trees_livingCount s_trees_firstYear s_trees_woodCounts s_trees_ends) (w_X11_felled a0 q_trees q_trees_woodCounts q_trees_ends q_text q_ocean q_found q_images q_search q_stories q_signs q_calendar q_draft q_trees_livingRings q_trees_woodRings cA s_yearOfNow s_trees_livingCount s_trees_firstYear o_trees_woodCounts o_trees_ends) (some (.int o_r)) := by
  refine CT.ofW (cc := cX11_felled) (maxL := 3) (ret := (some .int)) (by decide +kernel) rfl (Nat.le_of_ble_eq_true rfl) ?_
  intro p e s m below meth c A C0 hA hP hD ls hl
  have C0 : MX p s m [.ref a0, .int x1, .int x2].toArray meth c cX11_felled 3 wsX11_felled RX11 (some .int) D cA := C0
  have hl : lv_has ls 3 [(0, .ref a0), (1, .int x1), (2, .int x2)] := hl
  obtain ⟨hx, hb, hml, hown, hts, hr, hlocks, hX⟩ := id C0
  have hK := hX.1
  have hN := hX.2
  have hS : va_S A s.heap s.heap [] := va_S.rf
  unfold f_X11_felled at hf
  refine lv_iload_n hx hb dX11_felled_0 rfl (lv_at hl 1 rfl) ?_
  obtain ⟨r_1, hc_2, hf⟩ := pcl_e hf
  refine m_callS2 (As := [.int x1]) (rest := []) ⟨hx, hb, hml, hown, hts⟩ hX (ct_X11_isWood l D cA x1 r_1 hc_2) (va_cwS 1 hts gX11_felled_X11_isWood rfl rfl rfl (by decide +kernel) ⟨Nat.le_of_ble_eq_true rfl, Nat.le_of_ble_eq_true rfl⟩) hP hD hS hA [] [0, 1, 2, 3] 4 (by decide) rfl rfl (WS' := (w_X11_felled a0 q_trees q_trees_woodCounts q_trees_ends q_text q_ocean q_found q_images q_search q_stories q_signs q_calendar q_draft q_trees_livingRings q_trees_woodRings cA s_yearOfNow s_trees_livingCount s_trees_firstYear s_trees_woodCounts s_trees_ends)) (WR := [(a0, .inr (11, [.ref q_text, .ref q_ocean, .ref q_trees, .ref q_found, .ref q_images, .ref q_search, .ref q_stories, .ref q_signs, .ref q_calendar, .ref q_draft, .int s_yearOfNow])), (q_trees, .inr (10, [.ref q_trees_livingRings, .ref q_trees_woodRings, .ref q_trees_woodCounts, .ref q_trees_ends, .int s_trees_livingCount, .int s_trees_firstYear])), (q_trees_woodCounts, .inl (cA 1, 4, .inl s_trees_woodCounts)), (q_trees_ends, .inl (cA 1, 4, .inl s_trees_ends))]) rfl rfl rfl rfl (by decide) (by decide) rfl hl.1 rfl (st' := [.int r_1]) rfl (Nat.le_of_ble_eq_true rfl) ⟨Nat.zero_le _, Nat.zero_le _⟩ dX11_felled_1 (fun H locs hP hD hS => ?_)
  refine lv_if_eq (tgt := 14) hx hb dX11_felled_4 (by decide) (fun c_3 => ?_) (fun c_3 => ?_)
  · have hf := pbr_t c_3 hf
    refine lv_iconst (v := (-1 : Int32)) hx hb dX11_felled_14 (by decide) ?_
    obtain ⟨rfl, rfl, rfl⟩ := pe3 hf
    exact m_iret hx hb hr hlocks hP hS dX11_felled_15
  have hf := pbr_f c_3 hf
  refine lv_iload_n hx hb dX11_felled_7 rfl (lv_at hl 2 rfl) ?_
  obtain ⟨r_4, hc_5, hf⟩ := pcl_e hf
  refine m_callS2 (As := [.int x2]) (rest := []) ⟨hx, hb, hml, hown, hts⟩ hX (ct_X11_isBit l D cA x2 r_4 hc_5) (va_cwS 1 hts gX11_felled_X11_isBit rfl rfl rfl (by decide +kernel) ⟨Nat.le_of_ble_eq_true rfl, Nat.le_of_ble_eq_true rfl⟩) hP hD hS hA [] [0, 1, 2, 3] 4 (by decide) rfl rfl (WS' := (w_X11_felled a0 q_trees q_trees_woodCounts q_trees_ends q_text q_ocean q_found q_images q_search q_stories q_signs q_calendar q_draft q_trees_livingRings q_trees_woodRings cA s_yearOfNow s_trees_livingCount s_trees_firstYear s_trees_woodCounts s_trees_ends)) (WR := [(a0, .inr (11, [.ref q_text, .ref q_ocean, .ref q_trees, .ref q_found, .ref q_images, .ref q_search, .ref q_stories, .ref q_signs, .ref q_calendar, .ref q_draft, .int s_yearOfNow])), (q_trees, .inr (10, [.ref q_trees_livingRings, .ref q_trees_woodRings, .ref q_trees_woodCounts, .ref q_trees_ends, .int s_trees_livingCount, .int s_trees_firstYear])), (q_trees_woodCounts, .inl (cA 1, 4, .inl s_trees_woodCounts)), (q_trees_ends, .inl (cA 1, 4, .inl s_trees_ends))]) rfl rfl rfl rfl (by decide) (by decide) rfl hl.1 rfl (st' := [.int r_4]) rfl (Nat.le_of_ble_eq_true rfl) ⟨Nat.zero_le _, Nat.zero_le _⟩ dX11_felled_8 (fun H locs hP hD hS => ?_)
  refine lv_if_ne (tgt := 16) hx hb dX11_felled_11 (by decide) (fun c_6 => ?_) (fun c_6 => ?_)
  · have hf := pbr_f c_6 hf
    refine lv_aload_n hx hb dX11_felled_16 rfl (lv_at hl 0 rfl) ?_
    refine va_get (D := D) (ci := 11) (v := .ref q_trees) (C := RX11) (T := TX11) (N := 11) hx hb hts hn_X11_felled_X11 hown hK hP 0 rfl rfl 2 (by decide) (hts _ hw_X11_felled_f26) (fun _ h9 => h9) rfl dX11_felled_17 ?_
    refine lv_iload_n hx hb dX11_felled_20 rfl (lv_at hl 1 rfl) ?_
    refine lv_iload_n hx hb dX11_felled_21 rfl (lv_at hl 2 rfl) ?_
    obtain ⟨⟨r_7, woodCounts_8, ends_9⟩, hc_10, hf⟩ := pcl_e hf
    refine m_callV2 (As := [.int x1, .int x2]) (rest := []) ⟨hx, hb, hml, hown, hts⟩ hX (ct_X10_startWood l D cA x1 x2 q_trees q_trees_woodCounts q_trees_ends q_trees_livingRings q_trees_woodRings s_trees_livingCount s_trees_firstYear s_trees_woodCounts s_trees_ends r_7 woodCounts_8 ends_9 hc_10) (cwV 2 hts gX11_felled_X10_startWood rfl rfl rfl (by decide +kernel) ⟨Nat.le_of_ble_eq_true rfl, Nat.le_of_ble_eq_true rfl⟩) hP hD hS hA [1, 2, 3] [0] 4 (by decide) rfl rfl (WS' := (w_X11_felled a0 q_trees q_trees_woodCounts q_trees_ends q_text q_ocean q_found q_images q_search q_stories q_signs q_calendar q_draft q_trees_livingRings q_trees_woodRings cA s_yearOfNow s_trees_livingCount s_trees_firstYear woodCounts_8 ends_9)) (WR := [(a0, .inr (11, [.ref q_text, .ref q_ocean, .ref q_trees, .ref q_found, .ref q_images, .ref q_search, .ref q_stories, .ref q_signs, .ref q_calendar, .ref q_draft, .int s_yearOfNow]))]) rfl rfl rfl rfl (by decide) (by decide) 1 10 rfl rfl rfl hl.1 rfl (st' := [.int r_7]) rfl (Nat.le_of_ble_eq_true rfl) ⟨Nat.zero_le _, Nat.zero_le _⟩ dX11_felled_22 (fun H locs hP hD hS => ?_)
    obtain ⟨rfl, rfl, rfl⟩ := pe3 hf
    exact m_iret hx hb hr hlocks hP hS dX11_felled_25
  have hf := pbr_t c_6 hf
  refine lv_iconst (v := (-1 : Int32)) hx hb dX11_felled_14 (by decide) ?_
  obtain ⟨rfl, rfl, rfl⟩ := pe3 hf
  exact m_iret hx hb hr hlocks hP hS dX11_felled_15

/-! ===== OrphanWave.like(II)I ===== -/
abbrev rm_X11_like : Room := { frames := 2, cells := 0, slots := 0, locals := 46 }
abbrev wx_X11_like (a0 : Nat) (q_trees : Nat) (q_trees_woodCounts : Nat) (q_trees_livingRings : Nat) (q_trees_woodRings : Nat) (q_text : Nat) (q_ocean : Nat) (q_found : Nat) (q_images : Nat) (q_search : Nat) (q_stories : Nat) (q_signs : Nat) (q_calendar : Nat) (q_draft : Nat) (q_trees_ends : Nat) (r_trees_woodRings : Nat → Nat) (cA : Nat → ClassId) (s_yearOfNow : Int32) (s_trees_livingCount : Int32) (s_trees_firstYear : Int32) (s_trees_woodCounts : Nat → Int32) (s_trees_livingRings : Nat → Int32) (s_trees_woodRings : Nat → Nat → Int32) : va_W := [(a0, .inr (11, [.ref q_text, .ref q_ocean, .ref q_trees, .ref q_found, .ref q_images, .ref q_search, .ref q_stories, .ref q_signs, .ref q_calendar, .ref q_draft, .int s_yearOfNow])), (q_trees, .inr (10, [.ref q_trees_livingRings, .ref q_trees_woodRings, .ref q_trees_woodCounts, .ref q_trees_ends, .int s_trees_livingCount, .int s_trees_firstYear])), (q_trees_woodCounts, .inl (cA 1, 4, .inl s_trees_woodCounts)), (q_trees_livingRings, .inl (cA 1, 60, .inl s_trees_livingRings)), (q_trees_woodRings, .inl (cA 5, 4, .inr (.inr (.inr (.inr (gro 4 r_trees_woodRings))))))]
abbrev w_X11_like (a0 : Nat) (q_trees : Nat) (q_trees_woodCounts : Nat) (q_trees_livingRings : Nat) (q_trees_woodRings : Nat) (q_text : Nat) (q_ocean : Nat) (q_found : Nat) (q_images : Nat) (q_search : Nat) (q_stories : Nat) (q_signs : Nat) (q_calendar : Nat) (q_draft : Nat) (q_trees_ends : Nat) (r_trees_woodRings : Nat → Nat) (cA : Nat → ClassId) (s_yearOfNow : Int32) (s_trees_livingCount : Int32) (s_trees_firstYear : Int32) (s_trees_woodCounts : Nat → Int32) (s_trees_livingRings : Nat → Int32) (s_trees_woodRings : Nat → Nat → Int32) : va_W := [(a0, .inr (11, [.ref q_text, .ref q_ocean, .ref q_trees, .ref q_found, .ref q_images, .ref q_search, .ref q_stories, .ref q_signs, .ref q_calendar, .ref q_draft, .int s_yearOfNow])), (q_trees, .inr (10, [.ref q_trees_livingRings, .ref q_trees_woodRings, .ref q_trees_woodCounts, .ref q_trees_ends, .int s_trees_livingCount, .int s_trees_firstYear])), (q_trees_woodCounts, .inl (cA 1, 4, .inl s_trees_woodCounts)), (q_trees_livingRings, .inl (cA 1, 60, .inl s_trees_livingRings)), (q_trees_woodRings, .inl (cA 5, 4, .inr (.inr (.inr (.inr (gro 4 r_trees_woodRings))))))] ++ grw 4 r_trees_woodRings (cA 1) 30 s_trees_woodRings
theorem hn_X11_like_X11 : ∀ w ∈ u_ws RX11 TX11 11, w ∈ wsX11_like := by decide +kernel
theorem hw_X11_like_f26 : Cond.fieldLink RX11 26 "OrphanWave" "trees" "LOrphanWave$Trees;" ∈ wsX11_like := by decide +kernel

def f_X11_like (x1 : Int32) (x2 : Int32) (s_trees_livingCount : Int32) (s_trees_woodCounts : Nat → Int32) (s_trees_livingRings : Nat → Int32) (s_trees_woodRings : Nat → Nat → Int32) : Option ((Int32)) :=
  pcl (f_X11_isWood x1) (fun r_1 => (
  pbr (r_1 = 0)
    (some ((-1 : Int32)))
    (pcl (f_X10_lies x1 x2 s_trees_livingCount s_trees_woodCounts) (fun r_4 => (
    pbr (r_4 = 0)
      (some ((-1 : Int32)))
      (pcl (f_X10_likeness x1 x2 s_trees_woodCounts s_trees_livingRings s_trees_woodRings) (fun r_7 => (
      some (r_7)))))))))

set_option maxRecDepth 100000 in
set_option maxHeartbeats 4000000 in
theorem ct_X11_like (l : Launch) (D : va_G) (cA : Nat → ClassId) (x1 : Int32) (x2 : Int32) (a0 : Nat) (q_trees : Nat) (q_trees_woodCounts : Nat) (q_trees_livingRings : Nat) (q_trees_woodRings : Nat) (q_text : Nat) (q_ocean : Nat) (q_found : Nat) (q_images : Nat) (q_search : Nat) (q_stories : Nat) (q_signs : Nat) (q_calendar : Nat) (q_draft : Nat) (q_trees_ends : Nat) (r_trees_woodRings : Nat → Nat) (s_yearOfNow : Int32) (s_trees_livingCount : Int32) (s_trees_firstYear : Int32) (s_trees_woodCounts : Nat → Int32) (s_trees_livingRings : Nat → Int32) (s_trees_woodRings : Nat → Nat → Int32) (o_r : Int32) (hf : f_X11_like x1 x2 s_trees_livingCount s_trees_woodCounts s_trees_livingRings s_trees_woodRings = some o_r) : CT l yX11_like wsX11_like rm_X11_like D cA [.ref a0, .int x1, .int x2] (w_X11_like a0 q_trees q_trees_woodCounts q_trees_livingRings q_trees_woodRings q_text q_ocean q_found q_images q_search q_stories q_signs q_calendar q_draft q_trees_ends r_trees_woodRings cA s_yearOfNow s_trees_livingCount s_trees_firstYear s_trees_woodCounts s_trees_livingRings s_trees_woodRings) (w_X11_like a0 q_trees q_trees_woodCounts q_trees_livingRings q_trees_woodRings q_text q_ocean q_found q_images q_search q_stories q_signs q_calendar q_draft q_trees_ends r_trees_woodRings cA s_yearOfNow s_trees_livingCount s_trees_firstYear s_trees_woodCounts s_trees_livingRings s_trees_woodRings) (some (.int o_r)) := by
  refine CT.ofW (cc := cX11_like) (maxL := 3) (ret := (some .int)) (by decide +kernel) rfl (Nat.le_of_ble_eq_true rfl) ?_
  intro p e s m below meth c A C0 hA hP hD ls hl
  have C0 : MX p s m [.ref a0, .int x1, .int x2].toArray meth c cX11_like 3 wsX11_like RX11 (some .int) D cA := C0
  have hl : lv_has ls 3 [(0, .ref a0), (1, .int x1), (2, .int x2)] := hl
  obtain ⟨hx, hb, hml, hown, hts, hr, hlocks, hX⟩ := id C0
  have hK := hX.1
  have hN := hX.2
  have hS : va_S A s.heap s.heap [] := va_S.rf
  unfold f_X11_like at hf
  refine lv_iload_n hx hb dX11_like_0 rfl (lv_at hl 1 rfl) ?_
  obtain ⟨r_1, hc_2, hf⟩ := pcl_e hf
  refine m_callS2 (As := [.int x1]) (rest := []) ⟨hx, hb, hml, hown, hts⟩ hX (ct_X11_isWood l D cA x1 r_1 hc_2) (va_cwS 1 hts gX11_like_X11_isWood rfl rfl rfl (by decide +kernel) ⟨Nat.le_of_ble_eq_true rfl, Nat.le_of_ble_eq_true rfl⟩) hP hD hS hA [] [0, 1, 2, 3, 4, 5, 6, 7, 8] 9 (by decide) rfl rfl (WS' := (w_X11_like a0 q_trees q_trees_woodCounts q_trees_livingRings q_trees_woodRings q_text q_ocean q_found q_images q_search q_stories q_signs q_calendar q_draft q_trees_ends r_trees_woodRings cA s_yearOfNow s_trees_livingCount s_trees_firstYear s_trees_woodCounts s_trees_livingRings s_trees_woodRings)) (WR := [(a0, .inr (11, [.ref q_text, .ref q_ocean, .ref q_trees, .ref q_found, .ref q_images, .ref q_search, .ref q_stories, .ref q_signs, .ref q_calendar, .ref q_draft, .int s_yearOfNow])), (q_trees, .inr (10, [.ref q_trees_livingRings, .ref q_trees_woodRings, .ref q_trees_woodCounts, .ref q_trees_ends, .int s_trees_livingCount, .int s_trees_firstYear])), (q_trees_woodCounts, .inl (cA 1, 4, .inl s_trees_woodCounts)), (q_trees_livingRings, .inl (cA 1, 60, .inl s_trees_livingRings)), (q_trees_woodRings, .inl (cA 5, 4, .inr (.inr (.inr (.inr (gro 4 r_trees_woodRings))))))] ++ grw 4 r_trees_woodRings (cA 1) 30 s_trees_woodRings) rfl rfl rfl rfl (by decide) (by decide) rfl hl.1 rfl (st' := [.int r_1]) rfl (Nat.le_of_ble_eq_true rfl) ⟨Nat.zero_le _, Nat.zero_le _⟩ dX11_like_1 (fun H locs hP hD hS => ?_)
  refine lv_if_eq (tgt := 19) hx hb dX11_like_4 (by decide) (fun c_3 => ?_) (fun c_3 => ?_)
  · have hf := pbr_t c_3 hf
    refine lv_iconst (v := (-1 : Int32)) hx hb dX11_like_19 (by decide) ?_
    obtain rfl := pe1 hf
    exact m_iret hx hb hr hlocks hP hS dX11_like_20
  have hf := pbr_f c_3 hf
  refine lv_aload_n hx hb dX11_like_7 rfl (lv_at hl 0 rfl) ?_
  refine va_get (D := D) (ci := 11) (v := .ref q_trees) (C := RX11) (T := TX11) (N := 11) hx hb hts hn_X11_like_X11 hown hK hP 0 rfl rfl 2 (by decide) (hts _ hw_X11_like_f26) (fun _ h9 => h9) rfl dX11_like_8 ?_
  refine lv_iload_n hx hb dX11_like_11 rfl (lv_at hl 1 rfl) ?_
  refine lv_iload_n hx hb dX11_like_12 rfl (lv_at hl 2 rfl) ?_
  obtain ⟨r_4, hc_5, hf⟩ := pcl_e hf
  refine m_callV2 (As := [.int x1, .int x2]) (rest := []) ⟨hx, hb, hml, hown, hts⟩ hX (ct_X10_lies l D cA x1 x2 q_trees q_trees_woodCounts q_trees_livingRings q_trees_woodRings q_trees_ends s_trees_livingCount s_trees_firstYear s_trees_woodCounts r_4 hc_5) (cwV 2 hts gX11_like_X10_lies rfl rfl rfl (by decide +kernel) ⟨Nat.le_of_ble_eq_true rfl, Nat.le_of_ble_eq_true rfl⟩) hP hD hS hA [1, 2] [0, 3, 4, 5, 6, 7, 8] 9 (by decide) rfl rfl (WS' := (w_X11_like a0 q_trees q_trees_woodCounts q_trees_livingRings q_trees_woodRings q_text q_ocean q_found q_images q_search q_stories q_signs q_calendar q_draft q_trees_ends r_trees_woodRings cA s_yearOfNow s_trees_livingCount s_trees_firstYear s_trees_woodCounts s_trees_livingRings s_trees_woodRings)) (WR := [(a0, .inr (11, [.ref q_text, .ref q_ocean, .ref q_trees, .ref q_found, .ref q_images, .ref q_search, .ref q_stories, .ref q_signs, .ref q_calendar, .ref q_draft, .int s_yearOfNow])), (q_trees_livingRings, .inl (cA 1, 60, .inl s_trees_livingRings)), (q_trees_woodRings, .inl (cA 5, 4, .inr (.inr (.inr (.inr (gro 4 r_trees_woodRings))))))] ++ grw 4 r_trees_woodRings (cA 1) 30 s_trees_woodRings) rfl rfl rfl rfl (by decide) (by decide) 1 10 rfl rfl rfl hl.1 rfl (st' := [.int r_4]) rfl (Nat.le_of_ble_eq_true rfl) ⟨Nat.zero_le _, Nat.zero_le _⟩ dX11_like_13 (fun H locs hP hD hS => ?_)
  refine lv_if_ne (tgt := 21) hx hb dX11_like_16 (by decide) (fun c_6 => ?_) (fun c_6 => ?_)
  · have hf := pbr_f c_6 hf
    refine lv_aload_n hx hb dX11_like_21 rfl (lv_at hl 0 rfl) ?_
    refine va_get (D := D) (ci := 11) (v := .ref q_trees) (C := RX11) (T := TX11) (N := 11) hx hb hts hn_X11_like_X11 hown hK hP 0 rfl rfl 2 (by decide) (hts _ hw_X11_like_f26) (fun _ h9 => h9) rfl dX11_like_22 ?_
    refine lv_iload_n hx hb dX11_like_25 rfl (lv_at hl 1 rfl) ?_
    refine lv_iload_n hx hb dX11_like_26 rfl (lv_at hl 2 rfl) ?_
    obtain ⟨r_7, hc_8, hf⟩ := pcl_e hf
    refine m_callV2 (As := [.int x1, .int x2]) (rest := []) ⟨hx, hb, hml, hown, hts⟩ hX (ct_X10_likeness l D cA x1 x2 q_trees q_trees_woodCounts q_trees_livingRings q_trees_woodRings q_trees_ends r_trees_woodRings s_trees_livingCount s_trees_firstYear s_trees_woodCounts s_trees_livingRings s_trees_woodRings r_7 hc_8) (cwV 2 hts gX11_like_X10_likeness rfl rfl rfl (by decide +kernel) ⟨Nat.le_of_ble_eq_true rfl, Nat.le_of_ble_eq_true rfl⟩) hP hD hS hA [1, 2, 3, 4, 5, 6, 7, 8] [0] 9 (by decide) rfl rfl (WS' := (w_X11_like a0 q_trees q_trees_woodCounts q_trees_livingRings q_trees_woodRings q_text q_ocean q_found q_images q_search q_stories q_signs q_calendar q_draft q_trees_ends r_trees_woodRings cA s_yearOfNow s_trees_livingCount s_trees_firstYear s_trees_woodCounts s_trees_livingRings s_trees_woodRings)) (WR := [(a0, .inr (11, [.ref q_text, .ref q_ocean, .ref q_trees, .ref q_found, .ref q_images, .ref q_search, .ref q_stories, .ref q_signs, .ref q_calendar, .ref q_draft, .int s_yearOfNow]))]) rfl rfl rfl rfl (by decide) (by decide) 1 10 rfl rfl rfl hl.1 rfl (st' := [.int r_7]) rfl (Nat.le_of_ble_eq_true rfl) ⟨Nat.zero_le _, Nat.zero_le _⟩ dX11_like_27 (fun H locs hP hD hS => ?_)
    obtain rfl := pe1 hf
    exact m_iret hx hb hr hlocks hP hS dX11_like_30
  have hf := pbr_t c_6 hf
  refine lv_iconst (v := (-1 : Int32)) hx hb dX11_like_19 (by decide) ?_
  obtain rfl := pe1 hf
  exact m_iret hx hb hr hlocks hP hS dX11_like_20

/-! ===== OrphanWave.died(II)I ===== -/
abbrev rm_X11_died : Room := { frames := 3, cells := 0, slots := 0, locals := 71 }
abbrev wx_X11_died (a0 : Nat) (q_trees : Nat) (q_trees_woodCounts : Nat) (q_trees_livingRings : Nat) (q_trees_ends : Nat) (q_trees_woodRings : Nat) (q_text : Nat) (q_ocean : Nat) (q_found : Nat) (q_images : Nat) (q_search : Nat) (q_stories : Nat) (q_signs : Nat) (q_calendar : Nat) (q_draft : Nat) (r_trees_woodRings : Nat → Nat) (cA : Nat → ClassId) (s_yearOfNow : Int32) (s_trees_livingCount : Int32) (s_trees_firstYear : Int32) (s_trees_woodCounts : Nat → Int32) (s_trees_livingRings : Nat → Int32) (s_trees_ends : Nat → Int32) (s_trees_woodRings : Nat → Nat → Int32) : va_W := [(a0, .inr (11, [.ref q_text, .ref q_ocean, .ref q_trees, .ref q_found, .ref q_images, .ref q_search, .ref q_stories, .ref q_signs, .ref q_calendar, .ref q_draft, .int s_yearOfNow])), (q_trees, .inr (10, [.ref q_trees_livingRings, .ref q_trees_woodRings, .ref q_trees_woodCounts, .ref q_trees_ends, .int s_trees_livingCount, .int s_trees_firstYear])), (q_trees_woodCounts, .inl (cA 1, 4, .inl s_trees_woodCounts)), (q_trees_livingRings, .inl (cA 1, 60, .inl s_trees_livingRings)), (q_trees_ends, .inl (cA 1, 4, .inl s_trees_ends)), (q_trees_woodRings, .inl (cA 5, 4, .inr (.inr (.inr (.inr (gro 4 r_trees_woodRings))))))]
abbrev w_X11_died (a0 : Nat) (q_trees : Nat) (q_trees_woodCounts : Nat) (q_trees_livingRings : Nat) (q_trees_ends : Nat) (q_trees_woodRings : Nat) (q_text : Nat) (q_ocean : Nat) (q_found : Nat) (q_images : Nat) (q_search : Nat) (q_stories : Nat) (q_signs : Nat) (q_calendar : Nat) (q_draft : Nat) (r_trees_woodRings : Nat → Nat) (cA : Nat → ClassId) (s_yearOfNow : Int32) (s_trees_livingCount : Int32) (s_trees_firstYear : Int32) (s_trees_woodCounts : Nat → Int32) (s_trees_livingRings : Nat → Int32) (s_trees_ends : Nat → Int32) (s_trees_woodRings : Nat → Nat → Int32) : va_W := [(a0, .inr (11, [.ref q_text, .ref q_ocean, .ref q_trees, .ref q_found, .ref q_images, .ref q_search, .ref q_stories, .ref q_signs, .ref q_calendar, .ref q_draft, .int s_yearOfNow])), (q_trees, .inr (10, [.ref q_trees_livingRings, .ref q_trees_woodRings, .ref q_trees_woodCounts, .ref q_trees_ends, .int s_trees_livingCount, .int s_trees_firstYear])), (q_trees_woodCounts, .inl (cA 1, 4, .inl s_trees_woodCounts)), (q_trees_livingRings, .inl (cA 1, 60, .inl s_trees_livingRings)), (q_trees_ends, .inl (cA 1, 4, .inl s_trees_ends)), (q_trees_woodRings, .inl (cA 5, 4, .inr (.inr (.inr (.inr (gro 4 r_trees_woodRings))))))] ++ grw 4 r_trees_woodRings (cA 1) 30 s_trees_woodRings
theorem hn_X11_died_X11 : ∀ w ∈ u_ws RX11 TX11 11, w ∈ wsX11_died := by decide +kernel
theorem hn_X11_died_X10 : ∀ w ∈ u_ws RX10 TX10 6, w ∈ wsX11_died := by decide +kernel
theorem hw_X11_died_f26 : Cond.fieldLink RX11 26 "OrphanWave" "trees" "LOrphanWave$Trees;" ∈ wsX11_died := by decide +kernel

def f_X11_died (x1 : Int32) (x2 : Int32) (s_trees_livingCount : Int32) (s_trees_firstYear : Int32) (s_trees_woodCounts : Nat → Int32) (s_trees_livingRings : Nat → Int32) (s_trees_ends : Nat → Int32) (s_trees_woodRings : Nat → Nat → Int32) : Option ((Int32)) :=
  pcl (f_X11_isWood x1) (fun r_1 => (
  pbr (r_1 = 0)
    (some ((-1 : Int32)))
    (pcl (f_X11_within x2 (0 : Int32) (2 : Int32)) (fun r_4 => (
    pbr (r_4 = 0)
      (some ((-1 : Int32)))
      (pcl (f_X10_laidOn x1 s_trees_livingCount s_trees_woodCounts s_trees_livingRings s_trees_woodRings) (fun r_7 => (
      pbr (r_7 = (-9 : Int32))
        (some (r_7))
        (pbr (x2 = 0)
          (some (r_7))
          (pbr (x2 = (1 : Int32))
            (pcl (f_X10_lastYear x1 r_7 s_trees_firstYear s_trees_woodCounts) (fun r_13 => (
            some (r_13))))
            (pgd (pin x1 4) (
            some ((s_trees_ends x1.toNatClampNeg))))))))))))))

set_option maxRecDepth 100000 in
set_option maxHeartbeats 4000000 in
theorem ct_X11_died (l : Launch) (D : va_G) (cA : Nat → ClassId) (x1 : Int32) (x2 : Int32) (a0 : Nat) (q_trees : Nat) (q_trees_woodCounts : Nat) (q_trees_livingRings : Nat) (q_trees_ends : Nat) (q_trees_woodRings : Nat) (q_text : Nat) (q_ocean : Nat) (q_found : Nat) (q_images : Nat) (q_search : Nat) (q_stories : Nat) (q_signs : Nat) (q_calendar : Nat) (q_draft : Nat) (r_trees_woodRings : Nat → Nat) (s_yearOfNow : Int32) (s_trees_livingCount : Int32) (s_trees_firstYear : Int32) (s_trees_woodCounts : Nat → Int32) (s_trees_livingRings : Nat → Int32) (s_trees_ends : Nat → Int32) (s_trees_woodRings : Nat → Nat → Int32) (o_r : Int32) (hf : f_X11_died x1 x2 s_trees_livingCount s_trees_firstYear s_trees_woodCounts s_trees_livingRings s_trees_ends s_trees_woodRings = some o_r) : CT l yX11_died wsX11_died rm_X11_died D cA [.ref a0, .int x1, .int x2] (w_X11_died a0 q_trees q_trees_woodCounts q_trees_livingRings q_trees_ends q_trees_woodRings q_text q_ocean q_found q_images q_search q_stories q_signs q_calendar q_draft r_trees_woodRings cA s_yearOfNow s_trees_livingCount s_trees_firstYear s_trees_woodCounts s_trees_livingRings s_trees_ends s_trees_woodRings) (w_X11_died a0 q_trees q_trees_woodCounts q_trees_livingRings q_trees_ends q_trees_woodRings q_text q_ocean q_found q_images q_search q_stories q_signs q_calendar q_draft r_trees_woodRings cA s_yearOfNow s_trees_livingCount s_trees_firstYear s_trees_woodCounts s_trees_livingRings s_trees_ends s_trees_woodRings) (some (.int o_r)) := by
  refine CT.ofW (cc := cX11_died) (maxL := 4) (ret := (some .int)) (by decide +kernel) rfl (Nat.le_of_ble_eq_true rfl) ?_
  intro p e s m below meth c A C0 hA hP hD ls hl
  have C0 : MX p s m [.ref a0, .int x1, .int x2].toArray meth c cX11_died 4 wsX11_died RX11 (some .int) D cA := C0
  have hl : lv_has ls 4 [(0, .ref a0), (1, .int x1), (2, .int x2)] := hl
  obtain ⟨hx, hb, hml, hown, hts, hr, hlocks, hX⟩ := id C0
  have hK := hX.1
  have hN := hX.2
  have hS : va_S A s.heap s.heap [] := va_S.rf
  unfold f_X11_died at hf
  refine lv_iload_n hx hb dX11_died_0 rfl (lv_at hl 1 rfl) ?_
  obtain ⟨r_1, hc_2, hf⟩ := pcl_e hf
  refine m_callS2 (As := [.int x1]) (rest := []) ⟨hx, hb, hml, hown, hts⟩ hX (ct_X11_isWood l D cA x1 r_1 hc_2) (va_cwS 1 hts gX11_died_X11_isWood rfl rfl rfl (by decide +kernel) ⟨Nat.le_of_ble_eq_true rfl, Nat.le_of_ble_eq_true rfl⟩) hP hD hS hA [] [0, 1, 2, 3, 4, 5, 6, 7, 8, 9] 10 (by decide) rfl rfl (WS' := (w_X11_died a0 q_trees q_trees_woodCounts q_trees_livingRings q_trees_ends q_trees_woodRings q_text q_ocean q_found q_images q_search q_stories q_signs q_calendar q_draft r_trees_woodRings cA s_yearOfNow s_trees_livingCount s_trees_firstYear s_trees_woodCounts s_trees_livingRings s_trees_ends s_trees_woodRings)) (WR := [(a0, .inr (11, [.ref q_text, .ref q_ocean, .ref q_trees, .ref q_found, .ref q_images, .ref q_search, .ref q_stories, .ref q_signs, .ref q_calendar, .ref q_draft, .int s_yearOfNow])), (q_trees, .inr (10, [.ref q_trees_livingRings, .ref q_trees_woodRings, .ref q_trees_woodCounts, .ref q_trees_ends, .int s_trees_livingCount, .int s_trees_firstYear])), (q_trees_woodCounts, .inl (cA 1, 4, .inl s_trees_woodCounts)), (q_trees_livingRings, .inl (cA 1, 60, .inl s_trees_livingRings)), (q_trees_ends, .inl (cA 1, 4, .inl s_trees_ends)), (q_trees_woodRings, .inl (cA 5, 4, .inr (.inr (.inr (.inr (gro 4 r_trees_woodRings))))))] ++ grw 4 r_trees_woodRings (cA 1) 30 s_trees_woodRings) rfl rfl rfl rfl (by decide) (by decide) rfl hl.1 rfl (st' := [.int r_1]) rfl (Nat.le_of_ble_eq_true rfl) ⟨Nat.zero_le _, Nat.zero_le _⟩ dX11_died_1 (fun H locs hP hD hS => ?_)
  refine lv_if_eq (tgt := 16) hx hb dX11_died_4 (by decide) (fun c_3 => ?_) (fun c_3 => ?_)
  · have hf := pbr_t c_3 hf
    refine lv_iconst (v := (-1 : Int32)) hx hb dX11_died_16 (by decide) ?_
    obtain rfl := pe1 hf
    exact m_iret hx hb hr hlocks hP hS dX11_died_17
  have hf := pbr_f c_3 hf
  refine lv_iload_n hx hb dX11_died_7 rfl (lv_at hl 2 rfl) ?_
  refine lv_iconst (v := (0 : Int32)) hx hb dX11_died_8 (by decide) ?_
  refine lv_iconst (v := (2 : Int32)) hx hb dX11_died_9 (by decide) ?_
  obtain ⟨r_4, hc_5, hf⟩ := pcl_e hf
  refine m_callS2 (As := [.int x2, .int (0 : Int32), .int (2 : Int32)]) (rest := []) ⟨hx, hb, hml, hown, hts⟩ hX (ct_X11_within l D cA x2 (0 : Int32) (2 : Int32) r_4 hc_5) (va_cwS 3 hts gX11_died_X11_within rfl rfl rfl (by decide +kernel) ⟨Nat.le_of_ble_eq_true rfl, Nat.le_of_ble_eq_true rfl⟩) hP hD hS hA [] [0, 1, 2, 3, 4, 5, 6, 7, 8, 9] 10 (by decide) rfl rfl (WS' := (w_X11_died a0 q_trees q_trees_woodCounts q_trees_livingRings q_trees_ends q_trees_woodRings q_text q_ocean q_found q_images q_search q_stories q_signs q_calendar q_draft r_trees_woodRings cA s_yearOfNow s_trees_livingCount s_trees_firstYear s_trees_woodCounts s_trees_livingRings s_trees_ends s_trees_woodRings)) (WR := [(a0, .inr (11, [.ref q_text, .ref q_ocean, .ref q_trees, .ref q_found, .ref q_images, .ref q_search, .ref q_stories, .ref q_signs, .ref q_calendar, .ref q_draft, .int s_yearOfNow])), (q_trees, .inr (10, [.ref q_trees_livingRings, .ref q_trees_woodRings, .ref q_trees_woodCounts, .ref q_trees_ends, .int s_trees_livingCount, .int s_trees_firstYear])), (q_trees_woodCounts, .inl (cA 1, 4, .inl s_trees_woodCounts)), (q_trees_livingRings, .inl (cA 1, 60, .inl s_trees_livingRings)), (q_trees_ends, .inl (cA 1, 4, .inl s_trees_ends)), (q_trees_woodRings, .inl (cA 5, 4, .inr (.inr (.inr (.inr (gro 4 r_trees_woodRings))))))] ++ grw 4 r_trees_woodRings (cA 1) 30 s_trees_woodRings) rfl rfl rfl rfl (by decide) (by decide) rfl hl.1 rfl (st' := [.int r_4]) rfl (Nat.le_of_ble_eq_true rfl) ⟨Nat.zero_le _, Nat.zero_le _⟩ dX11_died_10 (fun H locs hP hD hS => ?_)
  refine lv_if_ne (tgt := 18) hx hb dX11_died_13 (by decide) (fun c_6 => ?_) (fun c_6 => ?_)
  · have hf := pbr_f c_6 hf
    refine lv_aload_n hx hb dX11_died_18 rfl (lv_at hl 0 rfl) ?_
    refine va_get (D := D) (ci := 11) (v := .ref q_trees) (C := RX11) (T := TX11) (N := 11) hx hb hts hn_X11_died_X11 hown hK hP 0 rfl rfl 2 (by decide) (hts _ hw_X11_died_f26) (fun _ h9 => h9) rfl dX11_died_19 ?_
    refine lv_iload_n hx hb dX11_died_22 rfl (lv_at hl 1 rfl) ?_
    obtain ⟨r_7, hc_8, hf⟩ := pcl_e hf
    refine m_callV2 (As := [.int x1]) (rest := []) ⟨hx, hb, hml, hown, hts⟩ hX (ct_X10_laidOn l D cA x1 q_trees q_trees_woodCounts q_trees_livingRings q_trees_woodRings q_trees_ends r_trees_woodRings s_trees_livingCount s_trees_firstYear s_trees_woodCounts s_trees_livingRings s_trees_woodRings r_7 hc_8) (cwV 1 hts gX11_died_X10_laidOn rfl rfl rfl (by decide +kernel) ⟨Nat.le_of_ble_eq_true rfl, Nat.le_of_ble_eq_true rfl⟩) hP hD hS hA [1, 2, 3, 5, 6, 7, 8, 9] [0, 4] 10 (by decide) rfl rfl (WS' := (w_X11_died a0 q_trees q_trees_woodCounts q_trees_livingRings q_trees_ends q_trees_woodRings q_text q_ocean q_found q_images q_search q_stories q_signs q_calendar q_draft r_trees_woodRings cA s_yearOfNow s_trees_livingCount s_trees_firstYear s_trees_woodCounts s_trees_livingRings s_trees_ends s_trees_woodRings)) (WR := [(a0, .inr (11, [.ref q_text, .ref q_ocean, .ref q_trees, .ref q_found, .ref q_images, .ref q_search, .ref q_stories, .ref q_signs, .ref q_calendar, .ref q_draft, .int s_yearOfNow])), (q_trees_ends, .inl (cA 1, 4, .inl s_trees_ends))]) rfl rfl rfl rfl (by decide) (by decide) 1 10 rfl rfl rfl hl.1 rfl (st' := [.int r_7]) rfl (Nat.le_of_ble_eq_true rfl) ⟨Nat.zero_le _, Nat.zero_le _⟩ dX11_died_23 (fun H locs hP hD hS => ?_)
    refine lv_istore_n (lv' := [(3, .int r_7), (0, .ref a0), (1, .int x1), (2, .int x2)]) hx hb dX11_died_26 rfl hl (by decide) rfl (fun ls hl => ?_)
    refine lv_iload_n hx hb dX11_died_27 rfl (lv_at hl 0 rfl) ?_
    refine lv_bipush (v := (-9 : Int32)) hx hb dX11_died_28 (by decide) ?_
    refine lv_icmp_eq (tgt := 37) hx hb dX11_died_30 (by decide) (fun c_9 => ?_) (fun c_9 => ?_)
    · have hf := pbr_t c_9 hf
      refine lv_iload_n hx hb dX11_died_37 rfl (lv_at hl 0 rfl) ?_
      obtain rfl := pe1 hf
      exact m_iret hx hb hr hlocks hP hS dX11_died_38
    have hf := pbr_f c_9 hf
    refine lv_iload_n hx hb dX11_died_33 rfl (lv_at hl 3 rfl) ?_
    refine lv_if_ne (tgt := 39) hx hb dX11_died_34 (by decide) (fun c_10 => ?_) (fun c_10 => ?_)
    · have hf := pbr_f c_10 hf
      refine lv_iload_n hx hb dX11_died_39 rfl (lv_at hl 3 rfl) ?_
      refine lv_iconst (v := (1 : Int32)) hx hb dX11_died_40 (by decide) ?_
      refine lv_icmp_ne (tgt := 56) hx hb dX11_died_41 (by decide) (fun c_11 => ?_) (fun c_11 => ?_)
      · have hf := pbr_f c_11 hf
        refine lv_aload_n hx hb dX11_died_56 rfl (lv_at hl 1 rfl) ?_
        refine va_get (D := D) (ci := 11) (v := .ref q_trees) (C := RX11) (T := TX11) (N := 11) hx hb hts hn_X11_died_X11 hown hK hP 0 rfl rfl 2 (by decide) (hts _ hw_X11_died_f26) (fun _ h9 => h9) rfl dX11_died_57 ?_
        refine va_getN (D := D) (ci := 10) (v := .ref q_trees_ends) (C := RX10) (T := TX10) (N := 6) hx hb hts hn_X11_died_X10 hown hK hP 1 rfl rfl 3 (by decide) (va_Nw.use rfl (hN _ nw_X11_241)) (fun _ h9 => h9) rfl dX11_died_60 ?_
        refine lv_iload_n hx hb dX11_died_63 rfl (lv_at hl 2 rfl) ?_
        obtain ⟨g_12, hf⟩ := pgd_e hf
        refine va_iald hx hb hK hP 4 1 rfl rfl g_12 dX11_died_64 ?_
        obtain rfl := pe1 hf
        exact m_iret hx hb hr hlocks hP hS dX11_died_65
      have hf := pbr_t c_11 hf
      refine lv_aload_n hx hb dX11_died_44 rfl (lv_at hl 1 rfl) ?_
      refine va_get (D := D) (ci := 11) (v := .ref q_trees) (C := RX11) (T := TX11) (N := 11) hx hb hts hn_X11_died_X11 hown hK hP 0 rfl rfl 2 (by decide) (hts _ hw_X11_died_f26) (fun _ h9 => h9) rfl dX11_died_45 ?_
      refine lv_iload_n hx hb dX11_died_48 rfl (lv_at hl 2 rfl) ?_
      refine lv_iload_n hx hb dX11_died_49 rfl (lv_at hl 0 rfl) ?_
      obtain ⟨r_13, hc_14, hf⟩ := pcl_e hf
      refine m_callV2 (As := [.int x1, .int r_7]) (rest := []) ⟨hx, hb, hml, hown, hts⟩ hX (ct_X10_lastYear l D cA x1 r_7 q_trees q_trees_woodCounts q_trees_livingRings q_trees_woodRings q_trees_ends s_trees_livingCount s_trees_firstYear s_trees_woodCounts r_13 hc_14) (cwV 2 hts gX11_died_X10_lastYear rfl rfl rfl (by decide +kernel) ⟨Nat.le_of_ble_eq_true rfl, Nat.le_of_ble_eq_true rfl⟩) hP hD hS hA [1, 2] [0, 3, 4, 5, 6, 7, 8, 9] 10 (by decide) rfl rfl (WS' := (w_X11_died a0 q_trees q_trees_woodCounts q_trees_livingRings q_trees_ends q_trees_woodRings q_text q_ocean q_found q_images q_search q_stories q_signs q_calendar q_draft r_trees_woodRings cA s_yearOfNow s_trees_livingCount s_trees_firstYear s_trees_woodCounts s_trees_livingRings s_trees_ends s_trees_woodRings)) (WR := [(a0, .inr (11, [.ref q_text, .ref q_ocean, .ref q_trees, .ref q_found, .ref q_images, .ref q_search, .ref q_stories, .ref q_signs, .ref q_calendar, .ref q_draft, .int s_yearOfNow])), (q_trees_livingRings, .inl (cA 1, 60, .inl s_trees_livingRings)), (q_trees_ends, .inl (cA 1, 4, .inl s_trees_ends)), (q_trees_woodRings, .inl (cA 5, 4, .inr (.inr (.inr (.inr (gro 4 r_trees_woodRings))))))] ++ grw 4 r_trees_woodRings (cA 1) 30 s_trees_woodRings) rfl rfl rfl rfl (by decide) (by decide) 1 10 rfl rfl rfl hl.1 rfl (st' := [.int r_13]) rfl (Nat.le_of_ble_eq_true rfl) ⟨Nat.zero_le _, Nat.zero_le _⟩ dX11_died_50 (fun H locs hP hD hS => ?_)
      refine lv_goto (tgt := 65) hx hb dX11_died_53 (by decide) ?_
      obtain rfl := pe1 hf
      exact m_iret hx hb hr hlocks hP hS dX11_died_65
    have hf := pbr_t c_10 hf
    refine lv_iload_n hx hb dX11_died_37 rfl (lv_at hl 0 rfl) ?_
    obtain rfl := pe1 hf
    exact m_iret hx hb hr hlocks hP hS dX11_died_38
  have hf := pbr_t c_6 hf
  refine lv_iconst (v := (-1 : Int32)) hx hb dX11_died_16 (by decide) ?_
  obtain rfl := pe1 hf
  exact m_iret hx hb hr hlocks hP hS dX11_died_17
