/-! ===== OrphanWaveModel.time(II)I ===== -/
abbrev rm_X12_time : Room := { frames := 3, cells := 0, slots := 0, locals := 68 }
abbrev w_X12_time (a0 : Nat) (q_depths : Nat) (q_far : Nat) (q_tune : Nat) (q_text : Nat) (q_books : Nat) (q_told : Nat) (q_years : Nat) (q_months : Nat) (q_ring : Nat) (q_woods : Nat) (q_ends : Nat) (q_wood : Nat) (q_sheets : Nat) (q_marsh : Nat) (q_oldest : Nat) (q_youngest : Nat) (q_knowns : Nat) (q_known : Nat) (q_weight : Nat) (q_chance : Nat) (q_digs : Nat) (q_draft : Nat) (q_isKept : Nat) (cA : Nat → ClassId) (s_trace : Int64) (s_typed : Int32) (s_earliest : Int32) (s_latest : Int32) (s_firstYear : Int32) (s_rings : Int32) (s_depths : Nat → Int32) (s_far : Nat → Int32) (s_tune : Nat → Int32) : va_W := [(a0, .inr (12, [.long s_trace, .ref q_text, .int s_typed, .ref q_depths, .ref q_tune, .ref q_far, .ref q_books, .ref q_told, .int s_earliest, .int s_latest, .ref q_years, .ref q_months, .int s_firstYear, .int s_rings, .ref q_ring, .ref q_woods, .ref q_ends, .ref q_wood, .ref q_sheets, .ref q_marsh, .ref q_oldest, .ref q_youngest, .ref q_knowns, .ref q_known, .ref q_weight, .ref q_chance, .ref q_digs, .ref q_draft, .ref q_isKept])), (q_depths, .inl (cA 1, 96, .inl s_depths)), (q_far, .inl (cA 1, 48, .inl s_far)), (q_tune, .inl (cA 1, 3, .inl s_tune))]
theorem hn_X12_time_X12 : ∀ w ∈ u_ws RX12 TX12 29, w ∈ wsX12_time := by decide +kernel
theorem hw_X12_time_f20 : Cond.fieldLink RX12 20 "OrphanWaveModel" "far" "[I" ∈ wsX12_time := by decide +kernel
theorem hw_X12_time_c107 : Cond.constant RX12 107 (1000000) ∈ wsX12_time := by decide +kernel

def f_X12_time (x1 : Int32) (x2 : Int32) (s_depths : Nat → Int32) (s_far : Nat → Int32) (s_tune : Nat → Int32) : Option ((Int32) × (Nat → Int32)) :=
  pcl (f_X12_isCell x1) (fun r_1 => (
  pbr (r_1 = 0)
    (some ((-1 : Int32), s_far))
    (pcl (f_X12_isCell x2) (fun r_4 => (
    pbr (r_4 = 0)
      (some ((-1 : Int32), s_far))
      (pcl (f_X12_begin x1 s_depths s_far s_tune) (fun far_7 => (
      pgd (pin x2 48) (
      pbr ((far_7 x2.toNatClampNeg) = (1000000 : Int32))
        (some ((-9 : Int32), far_7))
        (some ((far_7 x2.toNatClampNeg), far_7)))))))))))

set_option maxRecDepth 100000 in
set_option maxHeartbeats 4000000 in
theorem ct_X12_time (l : Launch) (D : va_G) (cA : Nat → ClassId) (x1 : Int32) (x2 : Int32) (a0 : Nat) (q_depths : Nat) (q_far : Nat) (q_tune : Nat) (q_text : Nat) (q_books : Nat) (q_told : Nat) (q_years : Nat) (q_months : Nat) (q_ring : Nat) (q_woods : Nat) (q_ends : Nat) (q_wood : Nat) (q_sheets : Nat) (q_marsh : Nat) (q_oldest : Nat) (q_youngest : Nat) (q_knowns : Nat) (q_known : Nat) (q_weight : Nat) (q_chance : Nat) (q_digs : Nat) (q_draft : Nat) (q_isKept : Nat) (s_trace : Int64) (s_typed : Int32) (s_earliest : Int32) (s_latest : Int32) (s_firstYear : Int32) (s_rings : Int32) (s_depths : Nat → Int32) (s_far : Nat → Int32) (s_tune : Nat → Int32) (o_r : Int32) (o_far : Nat → Int32) (hf : f_X12_time x1 x2 s_depths s_far s_tune = some (o_r, o_far)) : CT l yX12_time wsX12_time rm_X12_time D cA [.ref a0, .int x1, .int x2] (w_X12_time a0 q_depths q_far q_tune q_text q_books q_told q_years q_months q_ring q_woods q_ends q_wood q_sheets q_marsh q_oldest q_youngest q_knowns q_known q_weight q_chance q_digs q_draft q_isKept cA s_trace s_typed s_earliest s_latest s_firstYear s_rings s_depths s_far s_tune) (w_X12_time a0 q_depths q_far q_tune q_text q_books q_told q_years q_months q_ring q_woods q_ends q_wood q_sheets q_marsh q_oldest q_youngest q_knowns q_known q_weight q_chance q_digs q_draft q_isKept cA s_trace s_typed s_earliest s_latest s_firstYear s_rings s_depths o_far s_tune) (some (.int o_r)) := by
  refine CT.ofW (cc := cX12_time) (maxL := 3) (ret := (some .int)) (by decide +kernel) rfl (Nat.le_of_ble_eq_true rfl) ?_
  intro p e s m below meth c A C0 hA hP hD ls hl
  have C0 : MX p s m [.ref a0, .int x1, .int x2].toArray meth c cX12_time 3 wsX12_time RX12 (some .int) D cA := C0
  have hl : lv_has ls 3 [(0, .ref a0), (1, .int x1), (2, .int x2)] := hl
  obtain ⟨hx, hb, hml, hown, hts, hr, hlocks, hX⟩ := id C0
  have hK := hX.1
  have hN := hX.2
  have hS : va_S A s.heap s.heap [] := va_S.rf
  unfold f_X12_time at hf
  refine lv_iload_n hx hb dX12_time_0 rfl (lv_at hl 1 rfl) ?_
  obtain ⟨r_1, hc_2, hf⟩ := pcl_e hf
  refine m_callS2 (As := [.int x1]) (rest := []) ⟨hx, hb, hml, hown, hts⟩ hX (ct_X12_isCell l D cA x1 r_1 hc_2) (va_cwS 1 hts gX12_time_X12_isCell rfl rfl rfl (by decide +kernel) ⟨Nat.le_of_ble_eq_true rfl, Nat.le_of_ble_eq_true rfl⟩) hP hD hS hA [] [0, 1, 2, 3] 4 (by decide) rfl rfl (WS' := (w_X12_time a0 q_depths q_far q_tune q_text q_books q_told q_years q_months q_ring q_woods q_ends q_wood q_sheets q_marsh q_oldest q_youngest q_knowns q_known q_weight q_chance q_digs q_draft q_isKept cA s_trace s_typed s_earliest s_latest s_firstYear s_rings s_depths s_far s_tune)) (WR := [(a0, .inr (12, [.long s_trace, .ref q_text, .int s_typed, .ref q_depths, .ref q_tune, .ref q_far, .ref q_books, .ref q_told, .int s_earliest, .int s_latest, .ref q_years, .ref q_months, .int s_firstYear, .int s_rings, .ref q_ring, .ref q_woods, .ref q_ends, .ref q_wood, .ref q_sheets, .ref q_marsh, .ref q_oldest, .ref q_youngest, .ref q_knowns, .ref q_known, .ref q_weight, .ref q_chance, .ref q_digs, .ref q_draft, .ref q_isKept])), (q_depths, .inl (cA 1, 96, .inl s_depths)), (q_far, .inl (cA 1, 48, .inl s_far)), (q_tune, .inl (cA 1, 3, .inl s_tune))]) rfl rfl rfl rfl (by decide) (by decide) rfl hl.1 rfl (st' := [.int r_1]) rfl (Nat.le_of_ble_eq_true rfl) ⟨Nat.zero_le _, Nat.zero_le _⟩ dX12_time_1 (fun H locs hP hD hS => ?_)
  refine lv_if_eq (tgt := 14) hx hb dX12_time_4 (by decide) (fun c_3 => ?_) (fun c_3 => ?_)
  · have hf := pbr_t c_3 hf
    refine lv_iconst (v := (-1 : Int32)) hx hb dX12_time_14 (by decide) ?_
    obtain ⟨rfl, rfl⟩ := pe2 hf
    exact m_iret hx hb hr hlocks hP hS dX12_time_15
  have hf := pbr_f c_3 hf
  refine lv_iload_n hx hb dX12_time_7 rfl (lv_at hl 2 rfl) ?_
  obtain ⟨r_4, hc_5, hf⟩ := pcl_e hf
  refine m_callS2 (As := [.int x2]) (rest := []) ⟨hx, hb, hml, hown, hts⟩ hX (ct_X12_isCell l D cA x2 r_4 hc_5) (va_cwS 1 hts gX12_time_X12_isCell rfl rfl rfl (by decide +kernel) ⟨Nat.le_of_ble_eq_true rfl, Nat.le_of_ble_eq_true rfl⟩) hP hD hS hA [] [0, 1, 2, 3] 4 (by decide) rfl rfl (WS' := (w_X12_time a0 q_depths q_far q_tune q_text q_books q_told q_years q_months q_ring q_woods q_ends q_wood q_sheets q_marsh q_oldest q_youngest q_knowns q_known q_weight q_chance q_digs q_draft q_isKept cA s_trace s_typed s_earliest s_latest s_firstYear s_rings s_depths s_far s_tune)) (WR := [(a0, .inr (12, [.long s_trace, .ref q_text, .int s_typed, .ref q_depths, .ref q_tune, .ref q_far, .ref q_books, .ref q_told, .int s_earliest, .int s_latest, .ref q_years, .ref q_months, .int s_firstYear, .int s_rings, .ref q_ring, .ref q_woods, .ref q_ends, .ref q_wood, .ref q_sheets, .ref q_marsh, .ref q_oldest, .ref q_youngest, .ref q_knowns, .ref q_known, .ref q_weight, .ref q_chance, .ref q_digs, .ref q_draft, .ref q_isKept])), (q_depths, .inl (cA 1, 96, .inl s_depths)), (q_far, .inl (cA 1, 48, .inl s_far)), (q_tune, .inl (cA 1, 3, .inl s_tune))]) rfl rfl rfl rfl (by decide) (by decide) rfl hl.1 rfl (st' := [.int r_4]) rfl (Nat.le_of_ble_eq_true rfl) ⟨Nat.zero_le _, Nat.zero_le _⟩ dX12_time_8 (fun H locs hP hD hS => ?_)
  refine lv_if_ne (tgt := 16) hx hb dX12_time_11 (by decide) (fun c_6 => ?_) (fun c_6 => ?_)
  · have hf := pbr_f c_6 hf
    refine lv_aload_n hx hb dX12_time_16 rfl (lv_at hl 0 rfl) ?_
    refine lv_iload_n hx hb dX12_time_17 rfl (lv_at hl 1 rfl) ?_
    obtain ⟨far_7, hc_8, hf⟩ := pcl_e hf
    refine m_callV2 (As := [.int x1]) (rest := []) ⟨hx, hb, hml, hown, hts⟩ hX (ct_X12_begin l D cA x1 a0 q_depths q_far q_tune q_text q_books q_told q_years q_months q_ring q_woods q_ends q_wood q_sheets q_marsh q_oldest q_youngest q_knowns q_known q_weight q_chance q_digs q_draft q_isKept s_trace s_typed s_earliest s_latest s_firstYear s_rings s_depths s_far s_tune far_7 hc_8) (cwV 1 hts gX12_time_X12_begin rfl rfl rfl (by decide +kernel) ⟨Nat.le_of_ble_eq_true rfl, Nat.le_of_ble_eq_true rfl⟩) hP hD hS hA [0, 1, 2, 3] [] 4 (by decide) rfl rfl (WS' := (w_X12_time a0 q_depths q_far q_tune q_text q_books q_told q_years q_months q_ring q_woods q_ends q_wood q_sheets q_marsh q_oldest q_youngest q_knowns q_known q_weight q_chance q_digs q_draft q_isKept cA s_trace s_typed s_earliest s_latest s_firstYear s_rings s_depths far_7 s_tune)) (WR := []) rfl rfl rfl rfl (by decide) (by decide) 0 12 rfl rfl rfl hl.1 rfl (st' := []) rfl (Nat.le_of_ble_eq_true rfl) ⟨Nat.zero_le _, Nat.zero_le _⟩ dX12_time_18 (fun H locs hP hD hS => ?_)
    refine lv_aload_n hx hb dX12_time_21 rfl (lv_at hl 0 rfl) ?_
    refine va_get (D := D) (ci := 12) (v := .ref q_far) (C := RX12) (T := TX12) (N := 29) hx hb hts hn_X12_time_X12 hown hK hP 0 rfl rfl 5 (by decide) (hts _ hw_X12_time_f20) (fun _ h9 => h9) rfl dX12_time_22 ?_
    refine lv_iload_n hx hb dX12_time_25 rfl (lv_at hl 2 rfl) ?_
    obtain ⟨g_9, hf⟩ := pgd_e hf
    refine va_iald hx hb hK hP 2 1 rfl rfl g_9 dX12_time_26 ?_
    refine lv_ldc (v := (1000000 : Int32)) hx hb hown (hts _ hw_X12_time_c107) dX12_time_27 ?_
    refine lv_icmp_ne (tgt := 37) hx hb dX12_time_29 (by decide) (fun c_10 => ?_) (fun c_10 => ?_)
    · have hf := pbr_f c_10 hf
      refine lv_aload_n hx hb dX12_time_37 rfl (lv_at hl 0 rfl) ?_
      refine va_get (D := D) (ci := 12) (v := .ref q_far) (C := RX12) (T := TX12) (N := 29) hx hb hts hn_X12_time_X12 hown hK hP 0 rfl rfl 5 (by decide) (hts _ hw_X12_time_f20) (fun _ h9 => h9) rfl dX12_time_38 ?_
      refine lv_iload_n hx hb dX12_time_41 rfl (lv_at hl 2 rfl) ?_
      refine va_iald hx hb hK hP 2 1 rfl rfl g_9 dX12_time_42 ?_
      obtain ⟨rfl, rfl⟩ := pe2 hf
      exact m_iret hx hb hr hlocks hP hS dX12_time_43
    have hf := pbr_t c_10 hf
    refine lv_bipush (v := (-9 : Int32)) hx hb dX12_time_32 (by decide) ?_
    refine lv_goto (tgt := 43) hx hb dX12_time_34 (by decide) ?_
    obtain ⟨rfl, rfl⟩ := pe2 hf
    exact m_iret hx hb hr hlocks hP hS dX12_time_43
  have hf := pbr_t c_6 hf
  refine lv_iconst (v := (-1 : Int32)) hx hb dX12_time_14 (by decide) ?_
  obtain ⟨rfl, rfl⟩ := pe2 hf
  exact m_iret hx hb hr hlocks hP hS dX12_time_15

/-! ===== OrphanWaveModel.heightAt(II)I ===== -/
abbrev rm_X12_heightAt : Room := { frames := 1, cells := 0, slots := 0, locals := 22 }
abbrev w_X12_heightAt (a0 : Nat) (q_tune : Nat) (q_far : Nat) (q_depths : Nat) (q_text : Nat) (q_books : Nat) (q_told : Nat) (q_years : Nat) (q_months : Nat) (q_ring : Nat) (q_woods : Nat) (q_ends : Nat) (q_wood : Nat) (q_sheets : Nat) (q_marsh : Nat) (q_oldest : Nat) (q_youngest : Nat) (q_knowns : Nat) (q_known : Nat) (q_weight : Nat) (q_chance : Nat) (q_digs : Nat) (q_draft : Nat) (q_isKept : Nat) (cA : Nat → ClassId) (s_trace : Int64) (s_typed : Int32) (s_earliest : Int32) (s_latest : Int32) (s_firstYear : Int32) (s_rings : Int32) (s_tune : Nat → Int32) (s_far : Nat → Int32) (s_depths : Nat → Int32) : va_W := [(a0, .inr (12, [.long s_trace, .ref q_text, .int s_typed, .ref q_depths, .ref q_tune, .ref q_far, .ref q_books, .ref q_told, .int s_earliest, .int s_latest, .ref q_years, .ref q_months, .int s_firstYear, .int s_rings, .ref q_ring, .ref q_woods, .ref q_ends, .ref q_wood, .ref q_sheets, .ref q_marsh, .ref q_oldest, .ref q_youngest, .ref q_knowns, .ref q_known, .ref q_weight, .ref q_chance, .ref q_digs, .ref q_draft, .ref q_isKept])), (q_tune, .inl (cA 1, 3, .inl s_tune)), (q_far, .inl (cA 1, 48, .inl s_far)), (q_depths, .inl (cA 1, 96, .inl s_depths))]
theorem hn_X12_heightAt_X12 : ∀ w ∈ u_ws RX12 TX12 29, w ∈ wsX12_heightAt := by decide +kernel
theorem hw_X12_heightAt_f17 : Cond.fieldLink RX12 17 "OrphanWaveModel" "tune" "[I" ∈ wsX12_heightAt := by decide +kernel
theorem hw_X12_heightAt_f20 : Cond.fieldLink RX12 20 "OrphanWaveModel" "far" "[I" ∈ wsX12_heightAt := by decide +kernel
theorem hw_X12_heightAt_f13 : Cond.fieldLink RX12 13 "OrphanWaveModel" "depths" "[I" ∈ wsX12_heightAt := by decide +kernel

def f_X12_heightAt (x1 : Int32) (x2 : Int32) (s_tune : Nat → Int32) (s_far : Nat → Int32) (s_depths : Nat → Int32) : Option ((Int32)) :=
  pgd (pin x2 48) (
  pgd (¬ ((s_tune (1 : Int32).toNatClampNeg) + (s_far x2.toNatClampNeg)) = 0) (
  plt (((x1 * (s_tune (1 : Int32).toNatClampNeg)) / ((s_tune (1 : Int32).toNatClampNeg) + (s_far x2.toNatClampNeg))) : Int32) (fun x3_3 => (
  pgd (pin x2 96) (
  pcl (f_X12_in (s_depths x2.toNatClampNeg) (1 : Int32) (2 : Int32)) (fun r_5 => (
  pbr (r_5 = 0)
    (some (x3_3))
    (some (((2 : Int32) * x3_3))))))))))

set_option maxRecDepth 100000 in
set_option maxHeartbeats 4000000 in
theorem ct_X12_heightAt (l : Launch) (D : va_G) (cA : Nat → ClassId) (x1 : Int32) (x2 : Int32) (a0 : Nat) (q_tune : Nat) (q_far : Nat) (q_depths : Nat) (q_text : Nat) (q_books : Nat) (q_told : Nat) (q_years : Nat) (q_months : Nat) (q_ring : Nat) (q_woods : Nat) (q_ends : Nat) (q_wood : Nat) (q_sheets : Nat) (q_marsh : Nat) (q_oldest : Nat) (q_youngest : Nat) (q_knowns : Nat) (q_known : Nat) (q_weight : Nat) (q_chance : Nat) (q_digs : Nat) (q_draft : Nat) (q_isKept : Nat) (s_trace : Int64) (s_typed : Int32) (s_earliest : Int32) (s_latest : Int32) (s_firstYear : Int32) (s_rings : Int32) (s_tune : Nat → Int32) (s_far : Nat → Int32) (s_depths : Nat → Int32) (o_r : Int32) (hf : f_X12_heightAt x1 x2 s_tune s_far s_depths = some o_r) : CT l yX12_heightAt wsX12_heightAt rm_X12_heightAt D cA [.ref a0, .int x1, .int x2] (w_X12_heightAt a0 q_tune q_far q_depths q_text q_books q_told q_years q_months q_ring q_woods q_ends q_wood q_sheets q_marsh q_oldest q_youngest q_knowns q_known q_weight q_chance q_digs q_draft q_isKept cA s_trace s_typed s_earliest s_latest s_firstYear s_rings s_tune s_far s_depths) (w_X12_heightAt a0 q_tune q_far q_depths q_text q_books q_told q_years q_months q_ring q_woods q_ends q_wood q_sheets q_marsh q_oldest q_youngest q_knowns q_known q_weight q_chance q_digs q_draft q_isKept cA s_trace s_typed s_earliest s_latest s_firstYear s_rings s_tune s_far s_depths) (some (.int o_r)) := by
  refine CT.ofW (cc := cX12_heightAt) (maxL := 4) (ret := (some .int)) (by decide +kernel) rfl (Nat.le_of_ble_eq_true rfl) ?_
  intro p e s m below meth c A C0 hA hP hD ls hl
  have C0 : MX p s m [.ref a0, .int x1, .int x2].toArray meth c cX12_heightAt 4 wsX12_heightAt RX12 (some .int) D cA := C0
  have hl : lv_has ls 4 [(0, .ref a0), (1, .int x1), (2, .int x2)] := hl
  obtain ⟨hx, hb, hml, hown, hts, hr, hlocks, hX⟩ := id C0
  have hK := hX.1
  have hN := hX.2
  have hS : va_S A s.heap s.heap [] := va_S.rf
  unfold f_X12_heightAt at hf
  refine lv_iload_n hx hb dX12_heightAt_0 rfl (lv_at hl 1 rfl) ?_
  refine lv_aload_n hx hb dX12_heightAt_1 rfl (lv_at hl 0 rfl) ?_
  refine va_get (D := D) (ci := 12) (v := .ref q_tune) (C := RX12) (T := TX12) (N := 29) hx hb hts hn_X12_heightAt_X12 hown hK hP 0 rfl rfl 4 (by decide) (hts _ hw_X12_heightAt_f17) (fun _ h9 => h9) rfl dX12_heightAt_2 ?_
  refine lv_iconst (v := (1 : Int32)) hx hb dX12_heightAt_5 (by decide) ?_
  refine va_iald hx hb hK hP 1 1 rfl rfl (show pin (1 : Int32) 3 by decide +kernel) dX12_heightAt_6 ?_
  refine lv_imul hx hb dX12_heightAt_7 ?_
  refine lv_aload_n hx hb dX12_heightAt_8 rfl (lv_at hl 0 rfl) ?_
  refine va_get (D := D) (ci := 12) (v := .ref q_tune) (C := RX12) (T := TX12) (N := 29) hx hb hts hn_X12_heightAt_X12 hown hK hP 0 rfl rfl 4 (by decide) (hts _ hw_X12_heightAt_f17) (fun _ h9 => h9) rfl dX12_heightAt_9 ?_
  refine lv_iconst (v := (1 : Int32)) hx hb dX12_heightAt_12 (by decide) ?_
  refine va_iald hx hb hK hP 1 1 rfl rfl (show pin (1 : Int32) 3 by decide +kernel) dX12_heightAt_13 ?_
  refine lv_aload_n hx hb dX12_heightAt_14 rfl (lv_at hl 0 rfl) ?_
  refine va_get (D := D) (ci := 12) (v := .ref q_far) (C := RX12) (T := TX12) (N := 29) hx hb hts hn_X12_heightAt_X12 hown hK hP 0 rfl rfl 5 (by decide) (hts _ hw_X12_heightAt_f20) (fun _ h9 => h9) rfl dX12_heightAt_15 ?_
  refine lv_iload_n hx hb dX12_heightAt_18 rfl (lv_at hl 2 rfl) ?_
  obtain ⟨g_1, hf⟩ := pgd_e hf
  refine va_iald hx hb hK hP 2 1 rfl rfl g_1 dX12_heightAt_19 ?_
  refine lv_iadd hx hb dX12_heightAt_20 ?_
  obtain ⟨g_2, hf⟩ := pgd_e hf
  refine lv_idiv hx hb dX12_heightAt_21 g_2 ?_
  refine lv_topi (fun x3_3 ex3_3 => ?_)
  have hf := plt_e ex3_3 hf
  refine lv_istore_n (lv' := [(3, .int x3_3), (0, .ref a0), (1, .int x1), (2, .int x2)]) hx hb dX12_heightAt_22 rfl hl (by decide) rfl (fun ls hl => ?_)
  refine lv_aload_n hx hb dX12_heightAt_23 rfl (lv_at hl 1 rfl) ?_
  refine va_get (D := D) (ci := 12) (v := .ref q_depths) (C := RX12) (T := TX12) (N := 29) hx hb hts hn_X12_heightAt_X12 hown hK hP 0 rfl rfl 3 (by decide) (hts _ hw_X12_heightAt_f13) (fun _ h9 => h9) rfl dX12_heightAt_24 ?_
  refine lv_iload_n hx hb dX12_heightAt_27 rfl (lv_at hl 3 rfl) ?_
  obtain ⟨g_4, hf⟩ := pgd_e hf
  refine va_iald hx hb hK hP 3 1 rfl rfl g_4 dX12_heightAt_28 ?_
  refine lv_iconst (v := (1 : Int32)) hx hb dX12_heightAt_29 (by decide) ?_
  refine lv_iconst (v := (2 : Int32)) hx hb dX12_heightAt_30 (by decide) ?_
  obtain ⟨r_5, hc_6, hf⟩ := pcl_e hf
  refine m_callS2 (As := [.int (s_depths x2.toNatClampNeg), .int (1 : Int32), .int (2 : Int32)]) (rest := []) ⟨hx, hb, hml, hown, hts⟩ hX (ct_X12_in l D cA (s_depths x2.toNatClampNeg) (1 : Int32) (2 : Int32) r_5 hc_6) (va_cwS 3 hts gX12_heightAt_X12_in rfl rfl rfl (by decide +kernel) ⟨Nat.le_of_ble_eq_true rfl, Nat.le_of_ble_eq_true rfl⟩) hP hD hS hA [] [0, 1, 2, 3] 4 (by decide) rfl rfl (WS' := (w_X12_heightAt a0 q_tune q_far q_depths q_text q_books q_told q_years q_months q_ring q_woods q_ends q_wood q_sheets q_marsh q_oldest q_youngest q_knowns q_known q_weight q_chance q_digs q_draft q_isKept cA s_trace s_typed s_earliest s_latest s_firstYear s_rings s_tune s_far s_depths)) (WR := [(a0, .inr (12, [.long s_trace, .ref q_text, .int s_typed, .ref q_depths, .ref q_tune, .ref q_far, .ref q_books, .ref q_told, .int s_earliest, .int s_latest, .ref q_years, .ref q_months, .int s_firstYear, .int s_rings, .ref q_ring, .ref q_woods, .ref q_ends, .ref q_wood, .ref q_sheets, .ref q_marsh, .ref q_oldest, .ref q_youngest, .ref q_knowns, .ref q_known, .ref q_weight, .ref q_chance, .ref q_digs, .ref q_draft, .ref q_isKept])), (q_tune, .inl (cA 1, 3, .inl s_tune)), (q_far, .inl (cA 1, 48, .inl s_far)), (q_depths, .inl (cA 1, 96, .inl s_depths))]) rfl rfl rfl rfl (by decide) (by decide) rfl hl.1 rfl (st' := [.int r_5]) rfl (Nat.le_of_ble_eq_true rfl) ⟨Nat.zero_le _, Nat.zero_le _⟩ dX12_heightAt_31 (fun H locs hP hD hS => ?_)
  refine lv_if_eq (tgt := 43) hx hb dX12_heightAt_34 (by decide) (fun c_7 => ?_) (fun c_7 => ?_)
  · have hf := pbr_t c_7 hf
    refine lv_iload_n hx hb dX12_heightAt_43 rfl (lv_at hl 0 rfl) ?_
    obtain rfl := pe1 hf
    exact m_iret hx hb hr hlocks hP hS dX12_heightAt_44
  have hf := pbr_f c_7 hf
  refine lv_iconst (v := (2 : Int32)) hx hb dX12_heightAt_37 (by decide) ?_
  refine lv_iload_n hx hb dX12_heightAt_38 rfl (lv_at hl 0 rfl) ?_
  refine lv_imul hx hb dX12_heightAt_39 ?_
  refine lv_goto (tgt := 44) hx hb dX12_heightAt_40 (by decide) ?_
  obtain rfl := pe1 hf
  exact m_iret hx hb hr hlocks hP hS dX12_heightAt_44

/-! ===== OrphanWaveModel.height(III)I ===== -/
abbrev rm_X12_height : Room := { frames := 3, cells := 0, slots := 0, locals := 68 }
abbrev w_X12_height (a0 : Nat) (q_depths : Nat) (q_far : Nat) (q_tune : Nat) (q_text : Nat) (q_books : Nat) (q_told : Nat) (q_years : Nat) (q_months : Nat) (q_ring : Nat) (q_woods : Nat) (q_ends : Nat) (q_wood : Nat) (q_sheets : Nat) (q_marsh : Nat) (q_oldest : Nat) (q_youngest : Nat) (q_knowns : Nat) (q_known : Nat) (q_weight : Nat) (q_chance : Nat) (q_digs : Nat) (q_draft : Nat) (q_isKept : Nat) (cA : Nat → ClassId) (s_trace : Int64) (s_typed : Int32) (s_earliest : Int32) (s_latest : Int32) (s_firstYear : Int32) (s_rings : Int32) (s_depths : Nat → Int32) (s_far : Nat → Int32) (s_tune : Nat → Int32) : va_W := [(a0, .inr (12, [.long s_trace, .ref q_text, .int s_typed, .ref q_depths, .ref q_tune, .ref q_far, .ref q_books, .ref q_told, .int s_earliest, .int s_latest, .ref q_years, .ref q_months, .int s_firstYear, .int s_rings, .ref q_ring, .ref q_woods, .ref q_ends, .ref q_wood, .ref q_sheets, .ref q_marsh, .ref q_oldest, .ref q_youngest, .ref q_knowns, .ref q_known, .ref q_weight, .ref q_chance, .ref q_digs, .ref q_draft, .ref q_isKept])), (q_depths, .inl (cA 1, 96, .inl s_depths)), (q_far, .inl (cA 1, 48, .inl s_far)), (q_tune, .inl (cA 1, 3, .inl s_tune))]
theorem hn_X12_height_X12 : ∀ w ∈ u_ws RX12 TX12 29, w ∈ wsX12_height := by decide +kernel
theorem hw_X12_height_f20 : Cond.fieldLink RX12 20 "OrphanWaveModel" "far" "[I" ∈ wsX12_height := by decide +kernel
theorem hw_X12_height_c107 : Cond.constant RX12 107 (1000000) ∈ wsX12_height := by decide +kernel

def f_X12_height (x1 : Int32) (x2 : Int32) (x3 : Int32) (s_depths : Nat → Int32) (s_far : Nat → Int32) (s_tune : Nat → Int32) : Option ((Int32) × (Nat → Int32)) :=
  pcl (f_X12_isCell x1) (fun r_1 => (
  pbr (r_1 = 0)
    (some ((-1 : Int32), s_far))
    (pcl (f_X12_in x2 (1 : Int32) (99 : Int32)) (fun r_4 => (
    pbr (r_4 = 0)
      (some ((-1 : Int32), s_far))
      (pcl (f_X12_isCell x3) (fun r_7 => (
      pbr (r_7 = 0)
        (some ((-1 : Int32), s_far))
        (pcl (f_X12_begin x1 s_depths s_far s_tune) (fun far_10 => (
        pgd (pin x3 48) (
        pbr ((far_10 x3.toNatClampNeg) = (1000000 : Int32))
          (some ((-9 : Int32), far_10))
          (pcl (f_X12_heightAt x2 x3 s_tune far_10 s_depths) (fun r_14 => (
          some (r_14, far_10))))))))))))))))

set_option maxRecDepth 100000 in
set_option maxHeartbeats 4000000 in
theorem ct_X12_height (l : Launch) (D : va_G) (cA : Nat → ClassId) (x1 : Int32) (x2 : Int32) (x3 : Int32) (a0 : Nat) (q_depths : Nat) (q_far : Nat) (q_tune : Nat) (q_text : Nat) (q_books : Nat) (q_told : Nat) (q_years : Nat) (q_months : Nat) (q_ring : Nat) (q_woods : Nat) (q_ends : Nat) (q_wood : Nat) (q_sheets : Nat) (q_marsh : Nat) (q_oldest : Nat) (q_youngest : Nat) (q_knowns : Nat) (q_known : Nat) (q_weight : Nat) (q_chance : Nat) (q_digs : Nat) (q_draft : Nat) (q_isKept : Nat) (s_trace : Int64) (s_typed : Int32) (s_earliest : Int32) (s_latest : Int32) (s_firstYear : Int32) (s_rings : Int32) (s_depths : Nat → Int32) (s_far : Nat → Int32) (s_tune : Nat → Int32) (o_r : Int32) (o_far : Nat → Int32) (hf : f_X12_height x1 x2 x3 s_depths s_far s_tune = some (o_r, o_far)) : CT l yX12_height wsX12_height rm_X12_height D cA [.ref a0, .int x1, .int x2, .int x3] (w_X12_height a0 q_depths q_far q_tune q_text q_books q_told q_years q_months q_ring q_woods q_ends q_wood q_sheets q_marsh q_oldest q_youngest q_knowns q_known q_weight q_chance q_digs q_draft q_isKept cA s_trace s_typed s_earliest s_latest s_firstYear s_rings s_depths s_far s_tune) (w_X12_height a0 q_depths q_far q_tune q_text q_books q_told q_years q_months q_ring q_woods q_ends q_wood q_sheets q_marsh q_oldest q_youngest q_knowns q_known q_weight q_chance q_digs q_draft q_isKept cA s_trace s_typed s_earliest s_latest s_firstYear s_rings s_depths o_far s_tune) (some (.int o_r)) := by
  refine CT.ofW (cc := cX12_height) (maxL := 4) (ret := (some .int)) (by decide +kernel) rfl (Nat.le_of_ble_eq_true rfl) ?_
  intro p e s m below meth c A C0 hA hP hD ls hl
  have C0 : MX p s m [.ref a0, .int x1, .int x2, .int x3].toArray meth c cX12_height 4 wsX12_height RX12 (some .int) D cA := C0
  have hl : lv_has ls 4 [(0, .ref a0), (1, .int x1), (2, .int x2), (3, .int x3)] := hl
  obtain ⟨hx, hb, hml, hown, hts, hr, hlocks, hX⟩ := id C0
  have hK := hX.1
  have hN := hX.2
  have hS : va_S A s.heap s.heap [] := va_S.rf
  unfold f_X12_height at hf
  refine lv_iload_n hx hb dX12_height_0 rfl (lv_at hl 1 rfl) ?_
  obtain ⟨r_1, hc_2, hf⟩ := pcl_e hf
  refine m_callS2 (As := [.int x1]) (rest := []) ⟨hx, hb, hml, hown, hts⟩ hX (ct_X12_isCell l D cA x1 r_1 hc_2) (va_cwS 1 hts gX12_height_X12_isCell rfl rfl rfl (by decide +kernel) ⟨Nat.le_of_ble_eq_true rfl, Nat.le_of_ble_eq_true rfl⟩) hP hD hS hA [] [0, 1, 2, 3] 4 (by decide) rfl rfl (WS' := (w_X12_height a0 q_depths q_far q_tune q_text q_books q_told q_years q_months q_ring q_woods q_ends q_wood q_sheets q_marsh q_oldest q_youngest q_knowns q_known q_weight q_chance q_digs q_draft q_isKept cA s_trace s_typed s_earliest s_latest s_firstYear s_rings s_depths s_far s_tune)) (WR := [(a0, .inr (12, [.long s_trace, .ref q_text, .int s_typed, .ref q_depths, .ref q_tune, .ref q_far, .ref q_books, .ref q_told, .int s_earliest, .int s_latest, .ref q_years, .ref q_months, .int s_firstYear, .int s_rings, .ref q_ring, .ref q_woods, .ref q_ends, .ref q_wood, .ref q_sheets, .ref q_marsh, .ref q_oldest, .ref q_youngest, .ref q_knowns, .ref q_known, .ref q_weight, .ref q_chance, .ref q_digs, .ref q_draft, .ref q_isKept])), (q_depths, .inl (cA 1, 96, .inl s_depths)), (q_far, .inl (cA 1, 48, .inl s_far)), (q_tune, .inl (cA 1, 3, .inl s_tune))]) rfl rfl rfl rfl (by decide) (by decide) rfl hl.1 rfl (st' := [.int r_1]) rfl (Nat.le_of_ble_eq_true rfl) ⟨Nat.zero_le _, Nat.zero_le _⟩ dX12_height_1 (fun H locs hP hD hS => ?_)
  refine lv_if_eq (tgt := 24) hx hb dX12_height_4 (by decide) (fun c_3 => ?_) (fun c_3 => ?_)
  · have hf := pbr_t c_3 hf
    refine lv_iconst (v := (-1 : Int32)) hx hb dX12_height_24 (by decide) ?_
    obtain ⟨rfl, rfl⟩ := pe2 hf
    exact m_iret hx hb hr hlocks hP hS dX12_height_25
  have hf := pbr_f c_3 hf
  refine lv_iload_n hx hb dX12_height_7 rfl (lv_at hl 2 rfl) ?_
  refine lv_iconst (v := (1 : Int32)) hx hb dX12_height_8 (by decide) ?_
  refine lv_bipush (v := (99 : Int32)) hx hb dX12_height_9 (by decide) ?_
  obtain ⟨r_4, hc_5, hf⟩ := pcl_e hf
  refine m_callS2 (As := [.int x2, .int (1 : Int32), .int (99 : Int32)]) (rest := []) ⟨hx, hb, hml, hown, hts⟩ hX (ct_X12_in l D cA x2 (1 : Int32) (99 : Int32) r_4 hc_5) (va_cwS 3 hts gX12_height_X12_in rfl rfl rfl (by decide +kernel) ⟨Nat.le_of_ble_eq_true rfl, Nat.le_of_ble_eq_true rfl⟩) hP hD hS hA [] [0, 1, 2, 3] 4 (by decide) rfl rfl (WS' := (w_X12_height a0 q_depths q_far q_tune q_text q_books q_told q_years q_months q_ring q_woods q_ends q_wood q_sheets q_marsh q_oldest q_youngest q_knowns q_known q_weight q_chance q_digs q_draft q_isKept cA s_trace s_typed s_earliest s_latest s_firstYear s_rings s_depths s_far s_tune)) (WR := [(a0, .inr (12, [.long s_trace, .ref q_text, .int s_typed, .ref q_depths, .ref q_tune, .ref q_far, .ref q_books, .ref q_told, .int s_earliest, .int s_latest, .ref q_years, .ref q_months, .int s_firstYear, .int s_rings, .ref q_ring, .ref q_woods, .ref q_ends, .ref q_wood, .ref q_sheets, .ref q_marsh, .ref q_oldest, .ref q_youngest, .ref q_knowns, .ref q_known, .ref q_weight, .ref q_chance, .ref q_digs, .ref q_draft, .ref q_isKept])), (q_depths, .inl (cA 1, 96, .inl s_depths)), (q_far, .inl (cA 1, 48, .inl s_far)), (q_tune, .inl (cA 1, 3, .inl s_tune))]) rfl rfl rfl rfl (by decide) (by decide) rfl hl.1 rfl (st' := [.int r_4]) rfl (Nat.le_of_ble_eq_true rfl) ⟨Nat.zero_le _, Nat.zero_le _⟩ dX12_height_11 (fun H locs hP hD hS => ?_)
  refine lv_if_eq (tgt := 24) hx hb dX12_height_14 (by decide) (fun c_6 => ?_) (fun c_6 => ?_)
  · have hf := pbr_t c_6 hf
    refine lv_iconst (v := (-1 : Int32)) hx hb dX12_height_24 (by decide) ?_
    obtain ⟨rfl, rfl⟩ := pe2 hf
    exact m_iret hx hb hr hlocks hP hS dX12_height_25
  have hf := pbr_f c_6 hf
  refine lv_iload_n hx hb dX12_height_17 rfl (lv_at hl 3 rfl) ?_
  obtain ⟨r_7, hc_8, hf⟩ := pcl_e hf
  refine m_callS2 (As := [.int x3]) (rest := []) ⟨hx, hb, hml, hown, hts⟩ hX (ct_X12_isCell l D cA x3 r_7 hc_8) (va_cwS 1 hts gX12_height_X12_isCell rfl rfl rfl (by decide +kernel) ⟨Nat.le_of_ble_eq_true rfl, Nat.le_of_ble_eq_true rfl⟩) hP hD hS hA [] [0, 1, 2, 3] 4 (by decide) rfl rfl (WS' := (w_X12_height a0 q_depths q_far q_tune q_text q_books q_told q_years q_months q_ring q_woods q_ends q_wood q_sheets q_marsh q_oldest q_youngest q_knowns q_known q_weight q_chance q_digs q_draft q_isKept cA s_trace s_typed s_earliest s_latest s_firstYear s_rings s_depths s_far s_tune)) (WR := [(a0, .inr (12, [.long s_trace, .ref q_text, .int s_typed, .ref q_depths, .ref q_tune, .ref q_far, .ref q_books, .ref q_told, .int s_earliest, .int s_latest, .ref q_years, .ref q_months, .int s_firstYear, .int s_rings, .ref q_ring, .ref q_woods, .ref q_ends, .ref q_wood, .ref q_sheets, .ref q_marsh, .ref q_oldest, .ref q_youngest, .ref q_knowns, .ref q_known, .ref q_weight, .ref q_chance, .ref q_digs, .ref q_draft, .ref q_isKept])), (q_depths, .inl (cA 1, 96, .inl s_depths)), (q_far, .inl (cA 1, 48, .inl s_far)), (q_tune, .inl (cA 1, 3, .inl s_tune))]) rfl rfl rfl rfl (by decide) (by decide) rfl hl.1 rfl (st' := [.int r_7]) rfl (Nat.le_of_ble_eq_true rfl) ⟨Nat.zero_le _, Nat.zero_le _⟩ dX12_height_18 (fun H locs hP hD hS => ?_)
  refine lv_if_ne (tgt := 26) hx hb dX12_height_21 (by decide) (fun c_9 => ?_) (fun c_9 => ?_)
  · have hf := pbr_f c_9 hf
    refine lv_aload_n hx hb dX12_height_26 rfl (lv_at hl 0 rfl) ?_
    refine lv_iload_n hx hb dX12_height_27 rfl (lv_at hl 1 rfl) ?_
    obtain ⟨far_10, hc_11, hf⟩ := pcl_e hf
    refine m_callV2 (As := [.int x1]) (rest := []) ⟨hx, hb, hml, hown, hts⟩ hX (ct_X12_begin l D cA x1 a0 q_depths q_far q_tune q_text q_books q_told q_years q_months q_ring q_woods q_ends q_wood q_sheets q_marsh q_oldest q_youngest q_knowns q_known q_weight q_chance q_digs q_draft q_isKept s_trace s_typed s_earliest s_latest s_firstYear s_rings s_depths s_far s_tune far_10 hc_11) (cwV 1 hts gX12_height_X12_begin rfl rfl rfl (by decide +kernel) ⟨Nat.le_of_ble_eq_true rfl, Nat.le_of_ble_eq_true rfl⟩) hP hD hS hA [0, 1, 2, 3] [] 4 (by decide) rfl rfl (WS' := (w_X12_height a0 q_depths q_far q_tune q_text q_books q_told q_years q_months q_ring q_woods q_ends q_wood q_sheets q_marsh q_oldest q_youngest q_knowns q_known q_weight q_chance q_digs q_draft q_isKept cA s_trace s_typed s_earliest s_latest s_firstYear s_rings s_depths far_10 s_tune)) (WR := []) rfl rfl rfl rfl (by decide) (by decide) 0 12 rfl rfl rfl hl.1 rfl (st' := []) rfl (Nat.le_of_ble_eq_true rfl) ⟨Nat.zero_le _, Nat.zero_le _⟩ dX12_height_28 (fun H locs hP hD hS => ?_)
    refine lv_aload_n hx hb dX12_height_31 rfl (lv_at hl 0 rfl) ?_
    refine va_get (D := D) (ci := 12) (v := .ref q_far) (C := RX12) (T := TX12) (N := 29) hx hb hts hn_X12_height_X12 hown hK hP 0 rfl rfl 5 (by decide) (hts _ hw_X12_height_f20) (fun _ h9 => h9) rfl dX12_height_32 ?_
    refine lv_iload_n hx hb dX12_height_35 rfl (lv_at hl 3 rfl) ?_
    obtain ⟨g_12, hf⟩ := pgd_e hf
    refine va_iald hx hb hK hP 2 1 rfl rfl g_12 dX12_height_36 ?_
    refine lv_ldc (v := (1000000 : Int32)) hx hb hown (hts _ hw_X12_height_c107) dX12_height_37 ?_
    refine lv_icmp_ne (tgt := 47) hx hb dX12_height_39 (by decide) (fun c_13 => ?_) (fun c_13 => ?_)
    · have hf := pbr_f c_13 hf
      refine lv_aload_n hx hb dX12_height_47 rfl (lv_at hl 0 rfl) ?_
      refine lv_iload_n hx hb dX12_height_48 rfl (lv_at hl 2 rfl) ?_
      refine lv_iload_n hx hb dX12_height_49 rfl (lv_at hl 3 rfl) ?_
      obtain ⟨r_14, hc_15, hf⟩ := pcl_e hf
      refine m_callV2 (As := [.int x2, .int x3]) (rest := []) ⟨hx, hb, hml, hown, hts⟩ hX (ct_X12_heightAt l D cA x2 x3 a0 q_tune q_far q_depths q_text q_books q_told q_years q_months q_ring q_woods q_ends q_wood q_sheets q_marsh q_oldest q_youngest q_knowns q_known q_weight q_chance q_digs q_draft q_isKept s_trace s_typed s_earliest s_latest s_firstYear s_rings s_tune far_10 s_depths r_14 hc_15) (cwV 2 hts gX12_height_X12_heightAt rfl rfl rfl (by decide +kernel) ⟨Nat.le_of_ble_eq_true rfl, Nat.le_of_ble_eq_true rfl⟩) hP hD hS hA [0, 3, 2, 1] [] 4 (by decide) rfl rfl (WS' := (w_X12_height a0 q_depths q_far q_tune q_text q_books q_told q_years q_months q_ring q_woods q_ends q_wood q_sheets q_marsh q_oldest q_youngest q_knowns q_known q_weight q_chance q_digs q_draft q_isKept cA s_trace s_typed s_earliest s_latest s_firstYear s_rings s_depths far_10 s_tune)) (WR := []) rfl rfl rfl rfl (by decide) (by decide) 0 12 rfl rfl rfl hl.1 rfl (st' := [.int r_14]) rfl (Nat.le_of_ble_eq_true rfl) ⟨Nat.zero_le _, Nat.zero_le _⟩ dX12_height_50 (fun H locs hP hD hS => ?_)
      obtain ⟨rfl, rfl⟩ := pe2 hf
      exact m_iret hx hb hr hlocks hP hS dX12_height_53
    have hf := pbr_t c_13 hf
    refine lv_bipush (v := (-9 : Int32)) hx hb dX12_height_42 (by decide) ?_
    refine lv_goto (tgt := 53) hx hb dX12_height_44 (by decide) ?_
    obtain ⟨rfl, rfl⟩ := pe2 hf
    exact m_iret hx hb hr hlocks hP hS dX12_height_53
  have hf := pbr_t c_9 hf
  refine lv_iconst (v := (-1 : Int32)) hx hb dX12_height_24 (by decide) ?_
  obtain ⟨rfl, rfl⟩ := pe2 hf
  exact m_iret hx hb hr hlocks hP hS dX12_height_25

/-! ===== OrphanWaveModel.book(IIIII)I ===== -/
abbrev rm_X12_book : Room := { frames := 3, cells := 0, slots := 0, locals := 63 }
abbrev w_X12_book (a0 : Nat) (q_depths : Nat) (q_books : Nat) (q_told : Nat) (q_text : Nat) (q_tune : Nat) (q_far : Nat) (q_years : Nat) (q_months : Nat) (q_ring : Nat) (q_woods : Nat) (q_ends : Nat) (q_wood : Nat) (q_sheets : Nat) (q_marsh : Nat) (q_oldest : Nat) (q_youngest : Nat) (q_knowns : Nat) (q_known : Nat) (q_weight : Nat) (q_chance : Nat) (q_digs : Nat) (q_draft : Nat) (q_isKept : Nat) (cA : Nat → ClassId) (s_trace : Int64) (s_typed : Int32) (s_earliest : Int32) (s_latest : Int32) (s_firstYear : Int32) (s_rings : Int32) (s_depths : Nat → Int32) (s_books : Nat → Int32) (s_told : Nat → Int32) : va_W := [(a0, .inr (12, [.long s_trace, .ref q_text, .int s_typed, .ref q_depths, .ref q_tune, .ref q_far, .ref q_books, .ref q_told, .int s_earliest, .int s_latest, .ref q_years, .ref q_months, .int s_firstYear, .int s_rings, .ref q_ring, .ref q_woods, .ref q_ends, .ref q_wood, .ref q_sheets, .ref q_marsh, .ref q_oldest, .ref q_youngest, .ref q_knowns, .ref q_known, .ref q_weight, .ref q_chance, .ref q_digs, .ref q_draft, .ref q_isKept])), (q_depths, .inl (cA 1, 96, .inl s_depths)), (q_books, .inl (cA 1, 3, .inl s_books)), (q_told, .inl (cA 1, 90, .inl s_told))]
theorem hn_X12_book_X12 : ∀ w ∈ u_ws RX12 TX12 29, w ∈ wsX12_book := by decide +kernel
theorem hw_X12_book_f23 : Cond.fieldLink RX12 23 "OrphanWaveModel" "books" "[I" ∈ wsX12_book := by decide +kernel
theorem hw_X12_book_f26 : Cond.fieldLink RX12 26 "OrphanWaveModel" "told" "[I" ∈ wsX12_book := by decide +kernel

def f_X12_book (x1 : Int32) (x2 : Int32) (x3 : Int32) (x4 : Int32) (x5 : Int32) (s_depths : Nat → Int32) (s_books : Nat → Int32) (s_told : Nat → Int32) : Option ((Int32) × (Nat → Int32) × (Nat → Int32)) :=
  pcl (f_X12_isSea x1 s_depths) (fun r_1 => (
  pbr (r_1 = 0)
    (some ((-1 : Int32), s_books, s_told))
    (pcl (f_X12_in x2 (-9999 : Int32) (9999 : Int32)) (fun r_4 => (
    pbr (r_4 = 0)
      (some ((-1 : Int32), s_books, s_told))
      (pcl (f_X12_in x3 x2 (9999 : Int32)) (fun r_7 => (
      pbr (r_7 = 0)
        (some ((-1 : Int32), s_books, s_told))
        (pcl (f_X12_in x4 (0 : Int32) (999 : Int32)) (fun r_10 => (
        pbr (r_10 = 0)
          (some ((-1 : Int32), s_books, s_told))
          (pcl (f_X12_in x5 x4 (999 : Int32)) (fun r_13 => (
          pbr (r_13 = 0)
            (some ((-1 : Int32), s_books, s_told))
            (pbr ((s_books (0 : Int32).toNatClampNeg) = (6 : Int32))
              (some ((-3 : Int32), s_books, s_told))
              (plt (((5 : Int32) * (s_books (0 : Int32).toNatClampNeg)) : Int32) (fun x6_17 => (
              pgd (pin x6_17 90) (
              plt (upd s_told x6_17.toNatClampNeg x1 : Nat → Int32) (fun f_19 => (
              pgd (pin (x6_17 + (1 : Int32)) 90) (
              plt (upd f_19 (x6_17 + (1 : Int32)).toNatClampNeg x2 : Nat → Int32) (fun f_21 => (
              pgd (pin (x6_17 + (2 : Int32)) 90) (
              plt (upd f_21 (x6_17 + (2 : Int32)).toNatClampNeg x3 : Nat → Int32) (fun f_23 => (
              pgd (pin (x6_17 + (3 : Int32)) 90) (
              plt (upd f_23 (x6_17 + (3 : Int32)).toNatClampNeg x4 : Nat → Int32) (fun f_25 => (
              pgd (pin (x6_17 + (4 : Int32)) 90) (
              plt (upd f_25 (x6_17 + (4 : Int32)).toNatClampNeg x5 : Nat → Int32) (fun f_27 => (
              plt (upd s_books (0 : Int32).toNatClampNeg ((s_books (0 : Int32).toNatClampNeg) + (1 : Int32)) : Nat → Int32) (fun f_28 => (
              some (((f_28 (0 : Int32).toNatClampNeg) - (1 : Int32)), f_28, f_27))))))))))))))))))))))))))))))))))))

set_option maxRecDepth 100000 in
set_option maxHeartbeats 4000000 in
theorem ct_X12_book (l : Launch) (D : va_G) (cA : Nat → ClassId) (x1 : Int32) (x2 : Int32) (x3 : Int32) (x4 : Int32) (x5 : Int32) (a0 : Nat) (q_depths : Nat) (q_books : Nat) (q_told : Nat) (q_text : Nat) (q_tune : Nat) (q_far : Nat) (q_years : Nat) (q_months : Nat) (q_ring : Nat) (q_woods : Nat) (q_ends : Nat) (q_wood : Nat) (q_sheets : Nat) (q_marsh : Nat) (q_oldest : Nat) (q_youngest : Nat) (q_knowns : Nat) (q_known : Nat) (q_weight : Nat) (q_chance : Nat) (q_digs : Nat) (q_draft : Nat) (q_isKept : Nat) (s_trace : Int64) (s_typed : Int32) (s_earliest : Int32) (s_latest : Int32) (s_firstYear : Int32) (s_rings : Int32) (s_depths : Nat → Int32) (s_books : Nat → Int32) (s_told : Nat → Int32) (o_r : Int32) (o_books : Nat → Int32) (o_told : Nat → Int32) (hf : f_X12_book x1 x2 x3 x4 x5 s_depths s_books s_told = some (o_r, o_books, o_told)) : CT l yX12_book wsX12_book rm_X12_book D cA [.ref a0, .int x1, .int x2, .int x3, .int x4, .int x5] (w_X12_book a0 q_depths q_books q_told q_text q_tune q_far q_years q_months q_ring q_woods q_ends q_wood q_sheets q_marsh q_oldest q_youngest q_knowns q_known q_weight q_chance q_digs q_draft q_isKept cA s_trace s_typed s_earliest s_latest s_firstYear s_rings s_depths s_books s_told) (w_X12_book a0 q_depths q_books q_told q_text q_tune q_far q_years q_months q_ring q_woods q_ends q_wood q_sheets q_marsh q_oldest q_youngest q_knowns q_known q_weight q_chance q_digs q_draft q_isKept cA s_trace s_typed s_earliest s_latest s_firstYear s_rings s_depths o_books o_told) (some (.int o_r)) := by
  refine CT.ofW (cc := cX12_book) (maxL := 7) (ret := (some .int)) (by decide +kernel) rfl (Nat.le_of_ble_eq_true rfl) ?_
  intro p e s m below meth c A C0 hA hP hD ls hl
  have C0 : MX p s m [.ref a0, .int x1, .int x2, .int x3, .int x4, .int x5].toArray meth c cX12_book 7 wsX12_book RX12 (some .int) D cA := C0
  have hl : lv_has ls 7 [(0, .ref a0), (1, .int x1), (2, .int x2), (3, .int x3), (4, .int x4), (5, .int x5)] := hl
  obtain ⟨hx, hb, hml, hown, hts, hr, hlocks, hX⟩ := id C0
  have hK := hX.1
  have hN := hX.2
  have hS : va_S A s.heap s.heap [] := va_S.rf
  unfold f_X12_book at hf
  refine lv_aload_n hx hb dX12_book_0 rfl (lv_at hl 0 rfl) ?_
  refine lv_iload_n hx hb dX12_book_1 rfl (lv_at hl 1 rfl) ?_
  obtain ⟨r_1, hc_2, hf⟩ := pcl_e hf
  refine m_callV2 (As := [.int x1]) (rest := []) ⟨hx, hb, hml, hown, hts⟩ hX (ct_X12_isSea l D cA x1 a0 q_depths q_text q_tune q_far q_books q_told q_years q_months q_ring q_woods q_ends q_wood q_sheets q_marsh q_oldest q_youngest q_knowns q_known q_weight q_chance q_digs q_draft q_isKept s_trace s_typed s_earliest s_latest s_firstYear s_rings s_depths r_1 hc_2) (cwV 1 hts gX12_book_X12_isSea rfl rfl rfl (by decide +kernel) ⟨Nat.le_of_ble_eq_true rfl, Nat.le_of_ble_eq_true rfl⟩) hP hD hS hA [0, 1] [2, 3] 4 (by decide) rfl rfl (WS' := (w_X12_book a0 q_depths q_books q_told q_text q_tune q_far q_years q_months q_ring q_woods q_ends q_wood q_sheets q_marsh q_oldest q_youngest q_knowns q_known q_weight q_chance q_digs q_draft q_isKept cA s_trace s_typed s_earliest s_latest s_firstYear s_rings s_depths s_books s_told)) (WR := [(q_books, .inl (cA 1, 3, .inl s_books)), (q_told, .inl (cA 1, 90, .inl s_told))]) rfl rfl rfl rfl (by decide) (by decide) 0 12 rfl rfl rfl hl.1 rfl (st' := [.int r_1]) rfl (Nat.le_of_ble_eq_true rfl) ⟨Nat.zero_le _, Nat.zero_le _⟩ dX12_book_2 (fun H locs hP hD hS => ?_)
  refine lv_if_eq (tgt := 57) hx hb dX12_book_5 (by decide) (fun c_3 => ?_) (fun c_3 => ?_)
  · have hf := pbr_t c_3 hf
    refine lv_iconst (v := (-1 : Int32)) hx hb dX12_book_57 (by decide) ?_
    obtain ⟨rfl, rfl, rfl⟩ := pe3 hf
    exact m_iret hx hb hr hlocks hP hS dX12_book_58
  have hf := pbr_f c_3 hf
  refine lv_iload_n hx hb dX12_book_8 rfl (lv_at hl 2 rfl) ?_
  refine lv_sipush (v := (-9999 : Int32)) hx hb dX12_book_9 (by decide) ?_
  refine lv_sipush (v := (9999 : Int32)) hx hb dX12_book_12 (by decide) ?_
  obtain ⟨r_4, hc_5, hf⟩ := pcl_e hf
  refine m_callS2 (As := [.int x2, .int (-9999 : Int32), .int (9999 : Int32)]) (rest := []) ⟨hx, hb, hml, hown, hts⟩ hX (ct_X12_in l D cA x2 (-9999 : Int32) (9999 : Int32) r_4 hc_5) (va_cwS 3 hts gX12_book_X12_in rfl rfl rfl (by decide +kernel) ⟨Nat.le_of_ble_eq_true rfl, Nat.le_of_ble_eq_true rfl⟩) hP hD hS hA [] [0, 1, 2, 3] 4 (by decide) rfl rfl (WS' := (w_X12_book a0 q_depths q_books q_told q_text q_tune q_far q_years q_months q_ring q_woods q_ends q_wood q_sheets q_marsh q_oldest q_youngest q_knowns q_known q_weight q_chance q_digs q_draft q_isKept cA s_trace s_typed s_earliest s_latest s_firstYear s_rings s_depths s_books s_told)) (WR := [(a0, .inr (12, [.long s_trace, .ref q_text, .int s_typed, .ref q_depths, .ref q_tune, .ref q_far, .ref q_books, .ref q_told, .int s_earliest, .int s_latest, .ref q_years, .ref q_months, .int s_firstYear, .int s_rings, .ref q_ring, .ref q_woods, .ref q_ends, .ref q_wood, .ref q_sheets, .ref q_marsh, .ref q_oldest, .ref q_youngest, .ref q_knowns, .ref q_known, .ref q_weight, .ref q_chance, .ref q_digs, .ref q_draft, .ref q_isKept])), (q_depths, .inl (cA 1, 96, .inl s_depths)), (q_books, .inl (cA 1, 3, .inl s_books)), (q_told, .inl (cA 1, 90, .inl s_told))]) rfl rfl rfl rfl (by decide) (by decide) rfl hl.1 rfl (st' := [.int r_4]) rfl (Nat.le_of_ble_eq_true rfl) ⟨Nat.zero_le _, Nat.zero_le _⟩ dX12_book_15 (fun H locs hP hD hS => ?_)
  refine lv_if_eq (tgt := 57) hx hb dX12_book_18 (by decide) (fun c_6 => ?_) (fun c_6 => ?_)
  · have hf := pbr_t c_6 hf
    refine lv_iconst (v := (-1 : Int32)) hx hb dX12_book_57 (by decide) ?_
    obtain ⟨rfl, rfl, rfl⟩ := pe3 hf
    exact m_iret hx hb hr hlocks hP hS dX12_book_58
  have hf := pbr_f c_6 hf
  refine lv_iload_n hx hb dX12_book_21 rfl (lv_at hl 3 rfl) ?_
  refine lv_iload_n hx hb dX12_book_22 rfl (lv_at hl 2 rfl) ?_
  refine lv_sipush (v := (9999 : Int32)) hx hb dX12_book_23 (by decide) ?_
  obtain ⟨r_7, hc_8, hf⟩ := pcl_e hf
  refine m_callS2 (As := [.int x3, .int x2, .int (9999 : Int32)]) (rest := []) ⟨hx, hb, hml, hown, hts⟩ hX (ct_X12_in l D cA x3 x2 (9999 : Int32) r_7 hc_8) (va_cwS 3 hts gX12_book_X12_in rfl rfl rfl (by decide +kernel) ⟨Nat.le_of_ble_eq_true rfl, Nat.le_of_ble_eq_true rfl⟩) hP hD hS hA [] [0, 1, 2, 3] 4 (by decide) rfl rfl (WS' := (w_X12_book a0 q_depths q_books q_told q_text q_tune q_far q_years q_months q_ring q_woods q_ends q_wood q_sheets q_marsh q_oldest q_youngest q_knowns q_known q_weight q_chance q_digs q_draft q_isKept cA s_trace s_typed s_earliest s_latest s_firstYear s_rings s_depths s_books s_told)) (WR := [(a0, .inr (12, [.long s_trace, .ref q_text, .int s_typed, .ref q_depths, .ref q_tune, .ref q_far, .ref q_books, .ref q_told, .int s_earliest, .int s_latest, .ref q_years, .ref q_months, .int s_firstYear, .int s_rings, .ref q_ring, .ref q_woods, .ref q_ends, .ref q_wood, .ref q_sheets, .ref q_marsh, .ref q_oldest, .ref q_youngest, .ref q_knowns, .ref q_known, .ref q_weight, .ref q_chance, .ref q_digs, .ref q_draft, .ref q_isKept])), (q_depths, .inl (cA 1, 96, .inl s_depths)), (q_books, .inl (cA 1, 3, .inl s_books)), (q_told, .inl (cA 1, 90, .inl s_told))]) rfl rfl rfl rfl (by decide) (by decide) rfl hl.1 rfl (st' := [.int r_7]) rfl (Nat.le_of_ble_eq_true rfl) ⟨Nat.zero_le _, Nat.zero_le _⟩ dX12_book_26 (fun H locs hP hD hS => ?_)
  refine lv_if_eq (tgt := 57) hx hb dX12_book_29 (by decide) (fun c_9 => ?_) (fun c_9 => ?_)
  · have hf := pbr_t c_9 hf
    refine lv_iconst (v := (-1 : Int32)) hx hb dX12_book_57 (by decide) ?_
    obtain ⟨rfl, rfl, rfl⟩ := pe3 hf
    exact m_iret hx hb hr hlocks hP hS dX12_book_58
  have hf := pbr_f c_9 hf
  refine lv_iload hx hb dX12_book_32 (lv_at hl 4 rfl) ?_
  refine lv_iconst (v := (0 : Int32)) hx hb dX12_book_34 (by decide) ?_
  refine lv_sipush (v := (999 : Int32)) hx hb dX12_book_35 (by decide) ?_
  obtain ⟨r_10, hc_11, hf⟩ := pcl_e hf
  refine m_callS2 (As := [.int x4, .int (0 : Int32), .int (999 : Int32)]) (rest := []) ⟨hx, hb, hml, hown, hts⟩ hX (ct_X12_in l D cA x4 (0 : Int32) (999 : Int32) r_10 hc_11) (va_cwS 3 hts gX12_book_X12_in rfl rfl rfl (by decide +kernel) ⟨Nat.le_of_ble_eq_true rfl, Nat.le_of_ble_eq_true rfl⟩) hP hD hS hA [] [0, 1, 2, 3] 4 (by decide) rfl rfl (WS' := (w_X12_book a0 q_depths q_books q_told q_text q_tune q_far q_years q_months q_ring q_woods q_ends q_wood q_sheets q_marsh q_oldest q_youngest q_knowns q_known q_weight q_chance q_digs q_draft q_isKept cA s_trace s_typed s_earliest s_latest s_firstYear s_rings s_depths s_books s_told)) (WR := [(a0, .inr (12, [.long s_trace, .ref q_text, .int s_typed, .ref q_depths, .ref q_tune, .ref q_far, .ref q_books, .ref q_told, .int s_earliest, .int s_latest, .ref q_years, .ref q_months, .int s_firstYear, .int s_rings, .ref q_ring, .ref q_woods, .ref q_ends, .ref q_wood, .ref q_sheets, .ref q_marsh, .ref q_oldest, .ref q_youngest, .ref q_knowns, .ref q_known, .ref q_weight, .ref q_chance, .ref q_digs, .ref q_draft, .ref q_isKept])), (q_depths, .inl (cA 1, 96, .inl s_depths)), (q_books, .inl (cA 1, 3, .inl s_books)), (q_told, .inl (cA 1, 90, .inl s_told))]) rfl rfl rfl rfl (by decide) (by decide) rfl hl.1 rfl (st' := [.int r_10]) rfl (Nat.le_of_ble_eq_true rfl) ⟨Nat.zero_le _, Nat.zero_le _⟩ dX12_book_38 (fun H locs hP hD hS => ?_)
  refine lv_if_eq (tgt := 57) hx hb dX12_book_41 (by decide) (fun c_12 => ?_) (fun c_12 => ?_)
  · have hf := pbr_t c_12 hf
    refine lv_iconst (v := (-1 : Int32)) hx hb dX12_book_57 (by decide) ?_
    obtain ⟨rfl, rfl, rfl⟩ := pe3 hf
    exact m_iret hx hb hr hlocks hP hS dX12_book_58
  have hf := pbr_f c_12 hf
  refine lv_iload hx hb dX12_book_44 (lv_at hl 5 rfl) ?_
  refine lv_iload hx hb dX12_book_46 (lv_at hl 4 rfl) ?_
  refine lv_sipush (v := (999 : Int32)) hx hb dX12_book_48 (by decide) ?_
  obtain ⟨r_13, hc_14, hf⟩ := pcl_e hf
  refine m_callS2 (As := [.int x5, .int x4, .int (999 : Int32)]) (rest := []) ⟨hx, hb, hml, hown, hts⟩ hX (ct_X12_in l D cA x5 x4 (999 : Int32) r_13 hc_14) (va_cwS 3 hts gX12_book_X12_in rfl rfl rfl (by decide +kernel) ⟨Nat.le_of_ble_eq_true rfl, Nat.le_of_ble_eq_true rfl⟩) hP hD hS hA [] [0, 1, 2, 3] 4 (by decide) rfl rfl (WS' := (w_X12_book a0 q_depths q_books q_told q_text q_tune q_far q_years q_months q_ring q_woods q_ends q_wood q_sheets q_marsh q_oldest q_youngest q_knowns q_known q_weight q_chance q_digs q_draft q_isKept cA s_trace s_typed s_earliest s_latest s_firstYear s_rings s_depths s_books s_told)) (WR := [(a0, .inr (12, [.long s_trace, .ref q_text, .int s_typed, .ref q_depths, .ref q_tune, .ref q_far, .ref q_books, .ref q_told, .int s_earliest, .int s_latest, .ref q_years, .ref q_months, .int s_firstYear, .int s_rings, .ref q_ring, .ref q_woods, .ref q_ends, .ref q_wood, .ref q_sheets, .ref q_marsh, .ref q_oldest, .ref q_youngest, .ref q_knowns, .ref q_known, .ref q_weight, .ref q_chance, .ref q_digs, .ref q_draft, .ref q_isKept])), (q_depths, .inl (cA 1, 96, .inl s_depths)), (q_books, .inl (cA 1, 3, .inl s_books)), (q_told, .inl (cA 1, 90, .inl s_told))]) rfl rfl rfl rfl (by decide) (by decide) rfl hl.1 rfl (st' := [.int r_13]) rfl (Nat.le_of_ble_eq_true rfl) ⟨Nat.zero_le _, Nat.zero_le _⟩ dX12_book_51 (fun H locs hP hD hS => ?_)
  refine lv_if_ne (tgt := 59) hx hb dX12_book_54 (by decide) (fun c_15 => ?_) (fun c_15 => ?_)
  · have hf := pbr_f c_15 hf
    refine lv_aload_n hx hb dX12_book_59 rfl (lv_at hl 0 rfl) ?_
    refine va_get (D := D) (ci := 12) (v := .ref q_books) (C := RX12) (T := TX12) (N := 29) hx hb hts hn_X12_book_X12 hown hK hP 0 rfl rfl 6 (by decide) (hts _ hw_X12_book_f23) (fun _ h9 => h9) rfl dX12_book_60 ?_
    refine lv_iconst (v := (0 : Int32)) hx hb dX12_book_63 (by decide) ?_
    refine va_iald hx hb hK hP 2 1 rfl rfl (show pin (0 : Int32) 3 by decide +kernel) dX12_book_64 ?_
    refine lv_bipush (v := (6 : Int32)) hx hb dX12_book_65 (by decide) ?_
    refine lv_icmp_ne (tgt := 73) hx hb dX12_book_67 (by decide) (fun c_16 => ?_) (fun c_16 => ?_)
    · have hf := pbr_f c_16 hf
      refine lv_iconst (v := (5 : Int32)) hx hb dX12_book_73 (by decide) ?_
      refine lv_aload_n hx hb dX12_book_74 rfl (lv_at hl 0 rfl) ?_
      refine va_get (D := D) (ci := 12) (v := .ref q_books) (C := RX12) (T := TX12) (N := 29) hx hb hts hn_X12_book_X12 hown hK hP 0 rfl rfl 6 (by decide) (hts _ hw_X12_book_f23) (fun _ h9 => h9) rfl dX12_book_75 ?_
      refine lv_iconst (v := (0 : Int32)) hx hb dX12_book_78 (by decide) ?_
      refine va_iald hx hb hK hP 2 1 rfl rfl (show pin (0 : Int32) 3 by decide +kernel) dX12_book_79 ?_
      refine lv_imul hx hb dX12_book_80 ?_
      refine lv_topi (fun x6_17 ex6_17 => ?_)
      have hf := plt_e ex6_17 hf
      refine lv_istore (lv' := [(6, .int x6_17), (0, .ref a0), (1, .int x1), (2, .int x2), (3, .int x3), (4, .int x4), (5, .int x5)]) hx hb dX12_book_81 hl (by decide) rfl (fun ls hl => ?_)
      refine lv_aload_n hx hb dX12_book_83 rfl (lv_at hl 1 rfl) ?_
      refine va_get (D := D) (ci := 12) (v := .ref q_told) (C := RX12) (T := TX12) (N := 29) hx hb hts hn_X12_book_X12 hown hK hP 0 rfl rfl 7 (by decide) (hts _ hw_X12_book_f26) (fun _ h9 => h9) rfl dX12_book_84 ?_
      refine lv_iload hx hb dX12_book_87 (lv_at hl 0 rfl) ?_
      refine lv_iload_n hx hb dX12_book_89 rfl (lv_at hl 2 rfl) ?_
      obtain ⟨g_18, hf⟩ := pgd_e hf
      refine va_iast hx hb hK hP hD hS 3 1 rfl rfl g_18 dX12_book_90 (fun H locs hP hD hS => ?_)
      obtain ⟨f_19, ef_19⟩ : ∃ z : Nat → Int32, z = upd s_told x6_17.toNatClampNeg x1 := ⟨_, rfl⟩
      have hf := plt_e ef_19 hf
      have hP : va_P D vwCl (w_X12_book a0 q_depths q_books q_told q_text q_tune q_far q_years q_months q_ring q_woods q_ends q_wood q_sheets q_marsh q_oldest q_youngest q_knowns q_known q_weight q_chance q_digs q_draft q_isKept cA s_trace s_typed s_earliest s_latest s_firstYear s_rings s_depths s_books f_19) H := by rw [ef_19]; exact hP
      have hD : va_D A (w_X12_book a0 q_depths q_books q_told q_text q_tune q_far q_years q_months q_ring q_woods q_ends q_wood q_sheets q_marsh q_oldest q_youngest q_knowns q_known q_weight q_chance q_digs q_draft q_isKept cA s_trace s_typed s_earliest s_latest s_firstYear s_rings s_depths s_books f_19) := by rw [ef_19]; exact hD
      refine lv_aload_n hx hb dX12_book_91 rfl (lv_at hl 1 rfl) ?_
      refine va_get (D := D) (ci := 12) (v := .ref q_told) (C := RX12) (T := TX12) (N := 29) hx hb hts hn_X12_book_X12 hown hK hP 0 rfl rfl 7 (by decide) (hts _ hw_X12_book_f26) (fun _ h9 => h9) rfl dX12_book_92 ?_
      refine lv_iload hx hb dX12_book_95 (lv_at hl 0 rfl) ?_
      refine lv_iconst (v := (1 : Int32)) hx hb dX12_book_97 (by decide) ?_
      refine lv_iadd hx hb dX12_book_98 ?_
      refine lv_iload_n hx hb dX12_book_99 rfl (lv_at hl 3 rfl) ?_
      obtain ⟨g_20, hf⟩ := pgd_e hf
      refine va_iast hx hb hK hP hD hS 3 1 rfl rfl g_20 dX12_book_100 (fun H locs hP hD hS => ?_)
      obtain ⟨f_21, ef_21⟩ : ∃ z : Nat → Int32, z = upd f_19 (x6_17 + (1 : Int32)).toNatClampNeg x2 := ⟨_, rfl⟩
      have hf := plt_e ef_21 hf
      have hP : va_P D vwCl (w_X12_book a0 q_depths q_books q_told q_text q_tune q_far q_years q_months q_ring q_woods q_ends q_wood q_sheets q_marsh q_oldest q_youngest q_knowns q_known q_weight q_chance q_digs q_draft q_isKept cA s_trace s_typed s_earliest s_latest s_firstYear s_rings s_depths s_books f_21) H := by rw [ef_21]; exact hP
      have hD : va_D A (w_X12_book a0 q_depths q_books q_told q_text q_tune q_far q_years q_months q_ring q_woods q_ends q_wood q_sheets q_marsh q_oldest q_youngest q_knowns q_known q_weight q_chance q_digs q_draft q_isKept cA s_trace s_typed s_earliest s_latest s_firstYear s_rings s_depths s_books f_21) := by rw [ef_21]; exact hD
      refine lv_aload_n hx hb dX12_book_101 rfl (lv_at hl 1 rfl) ?_
      refine va_get (D := D) (ci := 12) (v := .ref q_told) (C := RX12) (T := TX12) (N := 29) hx hb hts hn_X12_book_X12 hown hK hP 0 rfl rfl 7 (by decide) (hts _ hw_X12_book_f26) (fun _ h9 => h9) rfl dX12_book_102 ?_
      refine lv_iload hx hb dX12_book_105 (lv_at hl 0 rfl) ?_
      refine lv_iconst (v := (2 : Int32)) hx hb dX12_book_107 (by decide) ?_
      refine lv_iadd hx hb dX12_book_108 ?_
      refine lv_iload_n hx hb dX12_book_109 rfl (lv_at hl 4 rfl) ?_
      obtain ⟨g_22, hf⟩ := pgd_e hf
      refine va_iast hx hb hK hP hD hS 3 1 rfl rfl g_22 dX12_book_110 (fun H locs hP hD hS => ?_)
      obtain ⟨f_23, ef_23⟩ : ∃ z : Nat → Int32, z = upd f_21 (x6_17 + (2 : Int32)).toNatClampNeg x3 := ⟨_, rfl⟩
      have hf := plt_e ef_23 hf
      have hP : va_P D vwCl (w_X12_book a0 q_depths q_books q_told q_text q_tune q_far q_years q_months q_ring q_woods q_ends q_wood q_sheets q_marsh q_oldest q_youngest q_knowns q_known q_weight q_chance q_digs q_draft q_isKept cA s_trace s_typed s_earliest s_latest s_firstYear s_rings s_depths s_books f_23) H := by rw [ef_23]; exact hP
      have hD : va_D A (w_X12_book a0 q_depths q_books q_told q_text q_tune q_far q_years q_months q_ring q_woods q_ends q_wood q_sheets q_marsh q_oldest q_youngest q_knowns q_known q_weight q_chance q_digs q_draft q_isKept cA s_trace s_typed s_earliest s_latest s_firstYear s_rings s_depths s_books f_23) := by rw [ef_23]; exact hD
      refine lv_aload_n hx hb dX12_book_111 rfl (lv_at hl 1 rfl) ?_
      refine va_get (D := D) (ci := 12) (v := .ref q_told) (C := RX12) (T := TX12) (N := 29) hx hb hts hn_X12_book_X12 hown hK hP 0 rfl rfl 7 (by decide) (hts _ hw_X12_book_f26) (fun _ h9 => h9) rfl dX12_book_112 ?_
      refine lv_iload hx hb dX12_book_115 (lv_at hl 0 rfl) ?_
      refine lv_iconst (v := (3 : Int32)) hx hb dX12_book_117 (by decide) ?_
      refine lv_iadd hx hb dX12_book_118 ?_
      refine lv_iload hx hb dX12_book_119 (lv_at hl 5 rfl) ?_
      obtain ⟨g_24, hf⟩ := pgd_e hf
      refine va_iast hx hb hK hP hD hS 3 1 rfl rfl g_24 dX12_book_121 (fun H locs hP hD hS => ?_)
      obtain ⟨f_25, ef_25⟩ : ∃ z : Nat → Int32, z = upd f_23 (x6_17 + (3 : Int32)).toNatClampNeg x4 := ⟨_, rfl⟩
      have hf := plt_e ef_25 hf
      have hP : va_P D vwCl (w_X12_book a0 q_depths q_books q_told q_text q_tune q_far q_years q_months q_ring q_woods q_ends q_wood q_sheets q_marsh q_oldest q_youngest q_knowns q_known q_weight q_chance q_digs q_draft q_isKept cA s_trace s_typed s_earliest s_latest s_firstYear s_rings s_depths s_books f_25) H := by rw [ef_25]; exact hP
      have hD : va_D A (w_X12_book a0 q_depths q_books q_told q_text q_tune q_far q_years q_months q_ring q_woods q_ends q_wood q_sheets q_marsh q_oldest q_youngest q_knowns q_known q_weight q_chance q_digs q_draft q_isKept cA s_trace s_typed s_earliest s_latest s_firstYear s_rings s_depths s_books f_25) := by rw [ef_25]; exact hD
      refine lv_aload_n hx hb dX12_book_122 rfl (lv_at hl 1 rfl) ?_
      refine va_get (D := D) (ci := 12) (v := .ref q_told) (C := RX12) (T := TX12) (N := 29) hx hb hts hn_X12_book_X12 hown hK hP 0 rfl rfl 7 (by decide) (hts _ hw_X12_book_f26) (fun _ h9 => h9) rfl dX12_book_123 ?_
      refine lv_iload hx hb dX12_book_126 (lv_at hl 0 rfl) ?_
      refine lv_iconst (v := (4 : Int32)) hx hb dX12_book_128 (by decide) ?_
      refine lv_iadd hx hb dX12_book_129 ?_
      refine lv_iload hx hb dX12_book_130 (lv_at hl 6 rfl) ?_
      obtain ⟨g_26, hf⟩ := pgd_e hf
      refine va_iast hx hb hK hP hD hS 3 1 rfl rfl g_26 dX12_book_132 (fun H locs hP hD hS => ?_)
      obtain ⟨f_27, ef_27⟩ : ∃ z : Nat → Int32, z = upd f_25 (x6_17 + (4 : Int32)).toNatClampNeg x5 := ⟨_, rfl⟩
      have hf := plt_e ef_27 hf
      have hP : va_P D vwCl (w_X12_book a0 q_depths q_books q_told q_text q_tune q_far q_years q_months q_ring q_woods q_ends q_wood q_sheets q_marsh q_oldest q_youngest q_knowns q_known q_weight q_chance q_digs q_draft q_isKept cA s_trace s_typed s_earliest s_latest s_firstYear s_rings s_depths s_books f_27) H := by rw [ef_27]; exact hP
      have hD : va_D A (w_X12_book a0 q_depths q_books q_told q_text q_tune q_far q_years q_months q_ring q_woods q_ends q_wood q_sheets q_marsh q_oldest q_youngest q_knowns q_known q_weight q_chance q_digs q_draft q_isKept cA s_trace s_typed s_earliest s_latest s_firstYear s_rings s_depths s_books f_27) := by rw [ef_27]; exact hD
      refine lv_aload_n hx hb dX12_book_133 rfl (lv_at hl 1 rfl) ?_
      refine va_get (D := D) (ci := 12) (v := .ref q_books) (C := RX12) (T := TX12) (N := 29) hx hb hts hn_X12_book_X12 hown hK hP 0 rfl rfl 6 (by decide) (hts _ hw_X12_book_f23) (fun _ h9 => h9) rfl dX12_book_134 ?_
      refine lv_iconst (v := (0 : Int32)) hx hb dX12_book_137 (by decide) ?_
      refine lv_dup2_11 hx hb dX12_book_138 rfl rfl ?_
      refine va_iald hx hb hK hP 2 1 rfl rfl (show pin (0 : Int32) 3 by decide +kernel) dX12_book_139 ?_
      refine lv_iconst (v := (1 : Int32)) hx hb dX12_book_140 (by decide) ?_
      refine lv_iadd hx hb dX12_book_141 ?_
      refine va_iast hx hb hK hP hD hS 2 1 rfl rfl (show pin (0 : Int32) 3 by decide +kernel) dX12_book_142 (fun H locs hP hD hS => ?_)
      obtain ⟨f_28, ef_28⟩ : ∃ z : Nat → Int32, z = upd s_books (0 : Int32).toNatClampNeg ((s_books (0 : Int32).toNatClampNeg) + (1 : Int32)) := ⟨_, rfl⟩
      have hf := plt_e ef_28 hf
      have hP : va_P D vwCl (w_X12_book a0 q_depths q_books q_told q_text q_tune q_far q_years q_months q_ring q_woods q_ends q_wood q_sheets q_marsh q_oldest q_youngest q_knowns q_known q_weight q_chance q_digs q_draft q_isKept cA s_trace s_typed s_earliest s_latest s_firstYear s_rings s_depths f_28 f_27) H := by rw [ef_28]; exact hP
      have hD : va_D A (w_X12_book a0 q_depths q_books q_told q_text q_tune q_far q_years q_months q_ring q_woods q_ends q_wood q_sheets q_marsh q_oldest q_youngest q_knowns q_known q_weight q_chance q_digs q_draft q_isKept cA s_trace s_typed s_earliest s_latest s_firstYear s_rings s_depths f_28 f_27) := by rw [ef_28]; exact hD
      refine lv_aload_n hx hb dX12_book_143 rfl (lv_at hl 1 rfl) ?_
      refine va_get (D := D) (ci := 12) (v := .ref q_books) (C := RX12) (T := TX12) (N := 29) hx hb hts hn_X12_book_X12 hown hK hP 0 rfl rfl 6 (by decide) (hts _ hw_X12_book_f23) (fun _ h9 => h9) rfl dX12_book_144 ?_
      refine lv_iconst (v := (0 : Int32)) hx hb dX12_book_147 (by decide) ?_
      refine va_iald hx hb hK hP 2 1 rfl rfl (show pin (0 : Int32) 3 by decide +kernel) dX12_book_148 ?_
      refine lv_iconst (v := (1 : Int32)) hx hb dX12_book_149 (by decide) ?_
      refine lv_isub hx hb dX12_book_150 ?_
      obtain ⟨rfl, rfl, rfl⟩ := pe3 hf
      exact m_iret hx hb hr hlocks hP hS dX12_book_151
    have hf := pbr_t c_16 hf
    refine lv_bipush (v := (-3 : Int32)) hx hb dX12_book_70 (by decide) ?_
    obtain ⟨rfl, rfl, rfl⟩ := pe3 hf
    exact m_iret hx hb hr hlocks hP hS dX12_book_72
  have hf := pbr_t c_15 hf
  refine lv_iconst (v := (-1 : Int32)) hx hb dX12_book_57 (by decide) ?_
  obtain ⟨rfl, rfl, rfl⟩ := pe3 hf
  exact m_iret hx hb hr hlocks hP hS dX12_book_58
