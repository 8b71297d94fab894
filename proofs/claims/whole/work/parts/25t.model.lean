/-! ===== OrphanWaveModel.keep(I)I ===== -/
abbrev rm_X12_keep : Room := { frames := 1, cells := 0, slots := 0, locals := 23 }
abbrev w_X12_keep (a0 : Nat) (q_books : Nat) (q_sheets : Nat) (q_knowns : Nat) (q_digs : Nat) (q_told : Nat) (q_marsh : Nat) (q_oldest : Nat) (q_youngest : Nat) (q_known : Nat) (q_weight : Nat) (q_isKept : Nat) (q_text : Nat) (q_depths : Nat) (q_tune : Nat) (q_far : Nat) (q_years : Nat) (q_months : Nat) (q_ring : Nat) (q_woods : Nat) (q_ends : Nat) (q_wood : Nat) (q_chance : Nat) (q_draft : Nat) (cA : Nat → ClassId) (s_trace : Int64) (s_typed : Int32) (s_earliest : Int32) (s_latest : Int32) (s_firstYear : Int32) (s_rings : Int32) (s_books : Nat → Int32) (s_sheets : Nat → Int32) (s_knowns : Nat → Int32) (s_digs : Nat → Int32) (s_told : Nat → Int32) (s_marsh : Nat → Int32) (s_oldest : Nat → Int32) (s_youngest : Nat → Int32) (s_known : Nat → Int32) (s_weight : Nat → Int64) (s_isKept : Nat → Int32) : va_W := [(a0, .inr (12, [.long s_trace, .ref q_text, .int s_typed, .ref q_depths, .ref q_tune, .ref q_far, .ref q_books, .ref q_told, .int s_earliest, .int s_latest, .ref q_years, .ref q_months, .int s_firstYear, .int s_rings, .ref q_ring, .ref q_woods, .ref q_ends, .ref q_wood, .ref q_sheets, .ref q_marsh, .ref q_oldest, .ref q_youngest, .ref q_knowns, .ref q_known, .ref q_weight, .ref q_chance, .ref q_digs, .ref q_draft, .ref q_isKept])), (q_books, .inl (cA 1, 3, .inl s_books)), (q_sheets, .inl (cA 1, 3, .inl s_sheets)), (q_knowns, .inl (cA 1, 3, .inl s_knowns)), (q_digs, .inl (cA 1, 3, .inl s_digs)), (q_told, .inl (cA 1, 90, .inl s_told)), (q_marsh, .inl (cA 1, 36, .inl s_marsh)), (q_oldest, .inl (cA 1, 36, .inl s_oldest)), (q_youngest, .inl (cA 1, 36, .inl s_youngest)), (q_known, .inl (cA 1, 48, .inl s_known)), (q_weight, .inl (cA 2, 15, .inr (.inl s_weight))), (q_isKept, .inl (cA 3, 2, .inl s_isKept))]
theorem hn_X12_keep_X12 : ∀ w ∈ u_ws RX12 TX12 29, w ∈ wsX12_keep := by decide +kernel
theorem hw_X12_keep_f78 : Cond.fieldLink RX12 78 "OrphanWaveModel" "isKept" "[Z" ∈ wsX12_keep := by decide +kernel
theorem hw_X12_keep_f47 : Cond.fieldLink RX12 47 "OrphanWaveModel" "sheets" "[I" ∈ wsX12_keep := by decide +kernel

def f_X12_keep (x1 : Int32) (s_books : Nat → Int32) (s_sheets : Nat → Int32) (s_knowns : Nat → Int32) (s_digs : Nat → Int32) (s_told : Nat → Int32) (s_marsh : Nat → Int32) (s_oldest : Nat → Int32) (s_youngest : Nat → Int32) (s_known : Nat → Int32) (s_weight : Nat → Int64) (s_isKept : Nat → Int32) : Option ((Int32) × (Nat → Int32) × (Nat → Int32) × (Nat → Int32) × (Nat → Int32) × (Nat → Int32) × (Nat → Int32) × (Nat → Int32) × (Nat → Int32) × (Nat → Int32) × (Nat → Int64) × (Nat → Int32)) :=
  pcl (f_X12_in x1 (0 : Int32) (1 : Int32)) (fun r_1 => (
  pbr (r_1 = 0)
    (some ((-1 : Int32), s_books, s_sheets, s_knowns, s_digs, s_told, s_marsh, s_oldest, s_youngest, s_known, s_weight, s_isKept))
    (pcl (f_X12_copy (0 : Int32) ((1 : Int32) + x1) s_books s_sheets s_knowns s_digs s_told s_marsh s_oldest s_youngest s_known s_weight) (fun (books_4, sheets_5, knowns_6, digs_7, told_8, marsh_9, oldest_10, youngest_11, known_12, weight_13) => (
    pgd (pin x1 2) (
    plt (upd s_isKept x1.toNatClampNeg (vp_nar .boolean (1 : Int32)) : Nat → Int32) (fun f_16 => (
    some ((sheets_5 (0 : Int32).toNatClampNeg), books_4, sheets_5, knowns_6, digs_7, told_8, marsh_9, oldest_10, youngest_11, known_12, weight_13, f_16)))))))))

set_option maxRecDepth 100000 in
set_option maxHeartbeats 4000000 in
theorem ct_X12_keep (l : Launch) (D : va_G) (cA : Nat → ClassId) (x1 : Int32) (a0 : Nat) (q_books : Nat) (q_sheets : Nat) (q_knowns : Nat) (q_digs : Nat) (q_told : Nat) (q_marsh : Nat) (q_oldest : Nat) (q_youngest : Nat) (q_known : Nat) (q_weight : Nat) (q_isKept : Nat) (q_text : Nat) (q_depths : Nat) (q_tune : Nat) (q_far : Nat) (q_years : Nat) (q_months : Nat) (q_ring : Nat) (q_woods : Nat) (q_ends : Nat) (q_wood : Nat) (q_chance : Nat) (q_draft : Nat) (s_trace : Int64) (s_typed : Int32) (s_earliest : Int32) (s_latest : Int32) (s_firstYear : Int32) (s_rings : Int32) (s_books : Nat → Int32) (s_sheets : Nat → Int32) (s_knowns : Nat → Int32) (s_digs : Nat → Int32) (s_told : Nat → Int32) (s_marsh : Nat → Int32) (s_oldest : Nat → Int32) (s_youngest : Nat → Int32) (s_known : Nat → Int32) (s_weight : Nat → Int64) (s_isKept : Nat → Int32) (o_r : Int32) (o_books : Nat → Int32) (o_sheets : Nat → Int32) (o_knowns : Nat → Int32) (o_digs : Nat → Int32) (o_told : Nat → Int32) (o_marsh : Nat → Int32) (o_oldest : Nat → Int32) (o_youngest : Nat → Int32) (o_known : Nat → Int32) (o_weight : Nat → Int64) (o_isKept : Nat → Int32) (hf : f_X12_keep x1 s_books s_sheets s_knowns s_digs s_told s_marsh s_oldest s_youngest s_known s_weight s_isKept = some (o_r, o_books, o_sheets, o_knowns, o_digs, o_told, o_marsh, o_oldest, o_youngest, o_known, o_weight, o_isKept)) : CT l yX12_keep wsX12_keep rm_X12_keep D cA [.ref a0, .int x1] (w_X12_keep a0 q_books q_sheets q_knowns q_digs q_told q_marsh q_oldest q_youngest q_known q_weight q_isKept q_text q_depths q_tune q_far q_years q_months q_ring q_woods q_ends q_wood q_chance q_draft cA s_trace s_typed s_earliest s_latest s_firstYear s_rings s_books s_sheets s_knowns s_digs s_told s_marsh s_oldest s_youngest s_known s_weight s_isKept) (w_X12_keep a0 q_books q_sheets q_knowns q_digs q_told q_marsh q_oldest q_youngest q_known q_weight q_isKept q_text q_depths q_tune q_far q_years q_months q_ring q_woods q_ends q_wood q_chance q_draft cA s_trace s_typed s_earliest s_latest s_firstYear s_rings o_books o_sheets o_knowns o_digs o_told o_marsh o_oldest o_youngest o_known o_weight o_isKept) (some (.int o_r)) := by
  refine CT.ofW (cc := cX12_keep) (maxL := 2) (ret := (some .int)) (by decide +kernel) rfl (Nat.le_of_ble_eq_true rfl) ?_
  intro p e s m below meth c A C0 hA hP hD ls hl
  have C0 : MX p s m [.ref a0, .int x1].toArray meth c cX12_keep 2 wsX12_keep RX12 (some .int) D cA := C0
  have hl : lv_has ls 2 [(0, .ref a0), (1, .int x1)] := hl
  obtain ⟨hx, hb, hml, hown, hts, hr, hlocks, hX⟩ := id C0
  have hK := hX.1
  have hN := hX.2
  have hS : va_S A s.heap s.heap [] := va_S.rf
  unfold f_X12_keep at hf
  refine lv_iload_n hx hb dX12_keep_0 rfl (lv_at hl 1 rfl) ?_
  refine lv_iconst (v := (0 : Int32)) hx hb dX12_keep_1 (by decide) ?_
  refine lv_iconst (v := (1 : Int32)) hx hb dX12_keep_2 (by decide) ?_
  obtain ⟨r_1, hc_2, hf⟩ := pcl_e hf
  refine m_callS2 (As := [.int x1, .int (0 : Int32), .int (1 : Int32)]) (rest := []) ⟨hx, hb, hml, hown, hts⟩ hX (ct_X12_in l D cA x1 (0 : Int32) (1 : Int32) r_1 hc_2) (va_cwS 3 hts gX12_keep_X12_in rfl rfl rfl (by decide +kernel) ⟨Nat.le_of_ble_eq_true rfl, Nat.le_of_ble_eq_true rfl⟩) hP hD hS hA [] [0, 1, 2, 3, 4, 5, 6, 7, 8, 9, 10, 11] 12 (by decide) rfl rfl (WS' := (w_X12_keep a0 q_books q_sheets q_knowns q_digs q_told q_marsh q_oldest q_youngest q_known q_weight q_isKept q_text q_depths q_tune q_far q_years q_months q_ring q_woods q_ends q_wood q_chance q_draft cA s_trace s_typed s_earliest s_latest s_firstYear s_rings s_books s_sheets s_knowns s_digs s_told s_marsh s_oldest s_youngest s_known s_weight s_isKept)) (WR := [(a0, .inr (12, [.long s_trace, .ref q_text, .int s_typed, .ref q_depths, .ref q_tune, .ref q_far, .ref q_books, .ref q_told, .int s_earliest, .int s_latest, .ref q_years, .ref q_months, .int s_firstYear, .int s_rings, .ref q_ring, .ref q_woods, .ref q_ends, .ref q_wood, .ref q_sheets, .ref q_marsh, .ref q_oldest, .ref q_youngest, .ref q_knowns, .ref q_known, .ref q_weight, .ref q_chance, .ref q_digs, .ref q_draft, .ref q_isKept])), (q_books, .inl (cA 1, 3, .inl s_books)), (q_sheets, .inl (cA 1, 3, .inl s_sheets)), (q_knowns, .inl (cA 1, 3, .inl s_knowns)), (q_digs, .inl (cA 1, 3, .inl s_digs)), (q_told, .inl (cA 1, 90, .inl s_told)), (q_marsh, .inl (cA 1, 36, .inl s_marsh)), (q_oldest, .inl (cA 1, 36, .inl s_oldest)), (q_youngest, .inl (cA 1, 36, .inl s_youngest)), (q_known, .inl (cA 1, 48, .inl s_known)), (q_weight, .inl (cA 2, 15, .inr (.inl s_weight))), (q_isKept, .inl (cA 3, 2, .inl s_isKept))]) rfl rfl rfl rfl (by decide) (by decide) rfl hl.1 rfl (st' := [.int r_1]) rfl (Nat.le_of_ble_eq_true rfl) ⟨Nat.zero_le _, Nat.zero_le _⟩ dX12_keep_3 (fun H locs hP hD hS => ?_)
  refine lv_if_ne (tgt := 11) hx hb dX12_keep_6 (by decide) (fun c_3 => ?_) (fun c_3 => ?_)
  · have hf := pbr_f c_3 hf
    refine lv_aload_n hx hb dX12_keep_11 rfl (lv_at hl 0 rfl) ?_
    refine lv_iconst (v := (0 : Int32)) hx hb dX12_keep_12 (by decide) ?_
    refine lv_iconst (v := (1 : Int32)) hx hb dX12_keep_13 (by decide) ?_
    refine lv_iload_n hx hb dX12_keep_14 rfl (lv_at hl 1 rfl) ?_
    refine lv_iadd hx hb dX12_keep_15 ?_
    obtain ⟨⟨books_4, sheets_5, knowns_6, digs_7, told_8, marsh_9, oldest_10, youngest_11, known_12, weight_13⟩, hc_14, hf⟩ := pcl_e hf
    refine m_callV2 (As := [.int (0 : Int32), .int ((1 : Int32) + x1)]) (rest := []) ⟨hx, hb, hml, hown, hts⟩ hX (ct_X12_copy l D cA (0 : Int32) ((1 : Int32) + x1) a0 q_books q_sheets q_knowns q_digs q_told q_marsh q_oldest q_youngest q_known q_weight q_text q_depths q_tune q_far q_years q_months q_ring q_woods q_ends q_wood q_chance q_draft q_isKept s_trace s_typed s_earliest s_latest s_firstYear s_rings s_books s_sheets s_knowns s_digs s_told s_marsh s_oldest s_youngest s_known s_weight books_4 sheets_5 knowns_6 digs_7 told_8 marsh_9 oldest_10 youngest_11 known_12 weight_13 hc_14) (cwV 2 hts gX12_keep_X12_copy rfl rfl rfl (by decide +kernel) ⟨Nat.le_of_ble_eq_true rfl, Nat.le_of_ble_eq_true rfl⟩) hP hD hS hA [0, 1, 2, 3, 4, 5, 6, 7, 8, 9, 10] [11] 12 (by decide) rfl rfl (WS' := (w_X12_keep a0 q_books q_sheets q_knowns q_digs q_told q_marsh q_oldest q_youngest q_known q_weight q_isKept q_text q_depths q_tune q_far q_years q_months q_ring q_woods q_ends q_wood q_chance q_draft cA s_trace s_typed s_earliest s_latest s_firstYear s_rings books_4 sheets_5 knowns_6 digs_7 told_8 marsh_9 oldest_10 youngest_11 known_12 weight_13 s_isKept)) (WR := [(q_isKept, .inl (cA 3, 2, .inl s_isKept))]) rfl rfl rfl rfl (by decide) (by decide) 0 12 rfl rfl rfl hl.1 rfl (st' := []) rfl (Nat.le_of_ble_eq_true rfl) ⟨Nat.zero_le _, Nat.zero_le _⟩ dX12_keep_16 (fun H locs hP hD hS => ?_)
    refine lv_aload_n hx hb dX12_keep_19 rfl (lv_at hl 0 rfl) ?_
    refine va_get (D := D) (ci := 12) (v := .ref q_isKept) (C := RX12) (T := TX12) (N := 29) hx hb hts hn_X12_keep_X12 hown hK hP 0 rfl rfl 28 (by decide) (hts _ hw_X12_keep_f78) (fun _ h9 => h9) rfl dX12_keep_20 ?_
    refine lv_iload_n hx hb dX12_keep_23 rfl (lv_at hl 1 rfl) ?_
    refine lv_iconst (v := (1 : Int32)) hx hb dX12_keep_24 (by decide) ?_
    obtain ⟨g_15, hf⟩ := pgd_e hf
    refine va_zast hx hb hK hP hD hS 11 3 rfl rfl g_15 dX12_keep_25 (fun H locs hP hD hS => ?_)
    obtain ⟨f_16, ef_16⟩ : ∃ z : Nat → Int32, z = upd s_isKept x1.toNatClampNeg (vp_nar .boolean (1 : Int32)) := ⟨_, rfl⟩
    have hf := plt_e ef_16 hf
    have hP : va_P D vwCl (w_X12_keep a0 q_books q_sheets q_knowns q_digs q_told q_marsh q_oldest q_youngest q_known q_weight q_isKept q_text q_depths q_tune q_far q_years q_months q_ring q_woods q_ends q_wood q_chance q_draft cA s_trace s_typed s_earliest s_latest s_firstYear s_rings books_4 sheets_5 knowns_6 digs_7 told_8 marsh_9 oldest_10 youngest_11 known_12 weight_13 f_16) H := by rw [ef_16]; exact hP
    have hD : va_D A (w_X12_keep a0 q_books q_sheets q_knowns q_digs q_told q_marsh q_oldest q_youngest q_known q_weight q_isKept q_text q_depths q_tune q_far q_years q_months q_ring q_woods q_ends q_wood q_chance q_draft cA s_trace s_typed s_earliest s_latest s_firstYear s_rings books_4 sheets_5 knowns_6 digs_7 told_8 marsh_9 oldest_10 youngest_11 known_12 weight_13 f_16) := by rw [ef_16]; exact hD
    refine lv_aload_n hx hb dX12_keep_26 rfl (lv_at hl 0 rfl) ?_
    refine va_get (D := D) (ci := 12) (v := .ref q_sheets) (C := RX12) (T := TX12) (N := 29) hx hb hts hn_X12_keep_X12 hown hK hP 0 rfl rfl 18 (by decide) (hts _ hw_X12_keep_f47) (fun _ h9 => h9) rfl dX12_keep_27 ?_
    refine lv_iconst (v := (0 : Int32)) hx hb dX12_keep_30 (by decide) ?_
    refine va_iald hx hb hK hP 2 1 rfl rfl (show pin (0 : Int32) 3 by decide +kernel) dX12_keep_31 ?_
    obtain ⟨rfl, rfl, rfl, rfl, rfl, rfl, rfl, rfl, rfl, rfl, rfl, rfl⟩ := pe12 hf
    exact m_iret hx hb hr hlocks hP hS dX12_keep_32
  have hf := pbr_t c_3 hf
  refine lv_iconst (v := (-1 : Int32)) hx hb dX12_keep_9 (by decide) ?_
  obtain ⟨rfl, rfl, rfl, rfl, rfl, rfl, rfl, rfl, rfl, rfl, rfl, rfl⟩ := pe12 hf
  exact m_iret hx hb hr hlocks hP hS dX12_keep_10

/-! ===== OrphanWaveModel.back(I)I ===== -/
abbrev rm_X12_back : Room := { frames := 1, cells := 0, slots := 0, locals := 23 }
abbrev w_X12_back (a0 : Nat) (q_isKept : Nat) (q_books : Nat) (q_sheets : Nat) (q_knowns : Nat) (q_digs : Nat) (q_told : Nat) (q_marsh : Nat) (q_oldest : Nat) (q_youngest : Nat) (q_known : Nat) (q_weight : Nat) (q_text : Nat) (q_depths : Nat) (q_tune : Nat) (q_far : Nat) (q_years : Nat) (q_months : Nat) (q_ring : Nat) (q_woods : Nat) (q_ends : Nat) (q_wood : Nat) (q_chance : Nat) (q_draft : Nat) (cA : Nat → ClassId) (s_trace : Int64) (s_typed : Int32) (s_earliest : Int32) (s_latest : Int32) (s_firstYear : Int32) (s_rings : Int32) (s_isKept : Nat → Int32) (s_books : Nat → Int32) (s_sheets : Nat → Int32) (s_knowns : Nat → Int32) (s_digs : Nat → Int32) (s_told : Nat → Int32) (s_marsh : Nat → Int32) (s_oldest : Nat → Int32) (s_youngest : Nat → Int32) (s_known : Nat → Int32) (s_weight : Nat → Int64) : va_W := [(a0, .inr (12, [.long s_trace, .ref q_text, .int s_typed, .ref q_depths, .ref q_tune, .ref q_far, .ref q_books, .ref q_told, .int s_earliest, .int s_latest, .ref q_years, .ref q_months, .int s_firstYear, .int s_rings, .ref q_ring, .ref q_woods, .ref q_ends, .ref q_wood, .ref q_sheets, .ref q_marsh, .ref q_oldest, .ref q_youngest, .ref q_knowns, .ref q_known, .ref q_weight, .ref q_chance, .ref q_digs, .ref q_draft, .ref q_isKept])), (q_isKept, .inl (cA 3, 2, .inl s_isKept)), (q_books, .inl (cA 1, 3, .inl s_books)), (q_sheets, .inl (cA 1, 3, .inl s_sheets)), (q_knowns, .inl (cA 1, 3, .inl s_knowns)), (q_digs, .inl (cA 1, 3, .inl s_digs)), (q_told, .inl (cA 1, 90, .inl s_told)), (q_marsh, .inl (cA 1, 36, .inl s_marsh)), (q_oldest, .inl (cA 1, 36, .inl s_oldest)), (q_youngest, .inl (cA 1, 36, .inl s_youngest)), (q_known, .inl (cA 1, 48, .inl s_known)), (q_weight, .inl (cA 2, 15, .inr (.inl s_weight)))]
theorem hn_X12_back_X12 : ∀ w ∈ u_ws RX12 TX12 29, w ∈ wsX12_back := by decide +kernel
theorem hw_X12_back_f78 : Cond.fieldLink RX12 78 "OrphanWaveModel" "isKept" "[Z" ∈ wsX12_back := by decide +kernel
theorem hw_X12_back_f47 : Cond.fieldLink RX12 47 "OrphanWaveModel" "sheets" "[I" ∈ wsX12_back := by decide +kernel

def f_X12_back (x1 : Int32) (s_isKept : Nat → Int32) (s_books : Nat → Int32) (s_sheets : Nat → Int32) (s_knowns : Nat → Int32) (s_digs : Nat → Int32) (s_told : Nat → Int32) (s_marsh : Nat → Int32) (s_oldest : Nat → Int32) (s_youngest : Nat → Int32) (s_known : Nat → Int32) (s_weight : Nat → Int64) : Option ((Int32) × (Nat → Int32) × (Nat → Int32) × (Nat → Int32) × (Nat → Int32) × (Nat → Int32) × (Nat → Int32) × (Nat → Int32) × (Nat → Int32) × (Nat → Int32) × (Nat → Int64)) :=
  pcl (f_X12_in x1 (0 : Int32) (1 : Int32)) (fun r_1 => (
  pbr (r_1 = 0)
    (some ((-1 : Int32), s_books, s_sheets, s_knowns, s_digs, s_told, s_marsh, s_oldest, s_youngest, s_known, s_weight))
    (pgd (pin x1 2) (
    pbr ((s_isKept x1.toNatClampNeg) = 0)
      (some ((-2 : Int32), s_books, s_sheets, s_knowns, s_digs, s_told, s_marsh, s_oldest, s_youngest, s_known, s_weight))
      (pcl (f_X12_copy ((1 : Int32) + x1) (0 : Int32) s_books s_sheets s_knowns s_digs s_told s_marsh s_oldest s_youngest s_known s_weight) (fun (books_6, sheets_7, knowns_8, digs_9, told_10, marsh_11, oldest_12, youngest_13, known_14, weight_15) => (
      some ((sheets_7 (0 : Int32).toNatClampNeg), books_6, sheets_7, knowns_8, digs_9, told_10, marsh_11, oldest_12, youngest_13, known_14, weight_15))))))))

set_option maxRecDepth 100000 in
set_option maxHeartbeats 4000000 in
theorem ct_X12_back (l : Launch) (D : va_G) (cA : Nat → ClassId) (x1 : Int32) (a0 : Nat) (q_isKept : Nat) (q_books : Nat) (q_sheets : Nat) (q_knowns : Nat) (q_digs : Nat) (q_told : Nat) (q_marsh : Nat) (q_oldest : Nat) (q_youngest : Nat) (q_known : Nat) (q_weight : Nat) (q_text : Nat) (q_depths : Nat) (q_tune : Nat) (q_far : Nat) (q_years : Nat) (q_months : Nat) (q_ring : Nat) (q_woods : Nat) (q_ends : Nat) (q_wood : Nat) (q_chance : Nat) (q_draft : Nat) (s_trace : Int64) (s_typed : Int32) (s_earliest : Int32) (s_latest : Int32) (s_firstYear : Int32) (s_rings : Int32) (s_isKept : Nat → Int32) (s_books : Nat → Int32) (s_sheets : Nat → Int32) (s_knowns : Nat → Int32) (s_digs : Nat → Int32) (s_told : Nat → Int32) (s_marsh : Nat → Int32) (s_oldest : Nat → Int32) (s_youngest : Nat → Int32) (s_known : Nat → Int32) (s_weight : Nat → Int64) (o_r : Int32) (o_books : Nat → Int32) (o_sheets : Nat → Int32) (o_knowns : Nat → Int32) (o_digs : Nat → Int32) (o_told : Nat → Int32) (o_marsh : Nat → Int32) (o_oldest : Nat → Int32) (o_youngest : Nat → Int32) (o_known : Nat → Int32) (o_weight : Nat → Int64) (hf : f_X12_back x1 s_isKept s_books s_sheets s_knowns s_digs s_told s_marsh s_oldest s_youngest s_known s_weight = some (o_r, o_books, o_sheets, o_knowns, o_digs, o_told, o_marsh, o_oldest, o_youngest, o_known, o_weight)) : CT l yX12_back wsX12_back rm_X12_back D cA [.ref a0, .int x1] (w_X12_back a0 q_isKept q_books q_sheets q_knowns q_digs q_told q_marsh q_oldest q_youngest q_known q_weight q_text q_depths q_tune q_far q_years q_months q_ring q_woods q_ends q_wood q_chance q_draft cA s_trace s_typed s_earliest s_latest s_firstYear s_rings s_isKept s_books s_sheets s_knowns s_digs s_told s_marsh s_oldest s_youngest s_known s_weight) (w_X12_back a0 q_isKept q_books q_sheets q_knowns q_digs q_told q_marsh q_oldest q_youngest q_known q_weight q_text q_depths q_tune q_far q_years q_months q_ring q_woods q_ends q_wood q_chance q_draft cA s_trace s_typed s_earliest s_latest s_firstYear s_rings s_isKept o_books o_sheets o_knowns o_digs o_told o_marsh o_oldest o_youngest o_known o_weight) (some (.int o_r)) := by
  refine CT.ofW (cc := cX12_back) (maxL := 2) (ret := (some .int)) (by decide +kernel) rfl (Nat.le_of_ble_eq_true rfl) ?_
  intro p e s m below meth c A C0 hA hP hD ls hl
  have C0 : MX p s m [.ref a0, .int x1].toArray meth c cX12_back 2 wsX12_back RX12 (some .int) D cA := C0
  have hl : lv_has ls 2 [(0, .ref a0), (1, .int x1)] := hl
  obtain ⟨hx, hb, hml, hown, hts, hr, hlocks, hX⟩ := id C0
  have hK := hX.1
  have hN := hX.2
  have hS : va_S A s.heap s.heap [] := va_S.rf
  unfold f_X12_back at hf
  refine lv_iload_n hx hb dX12_back_0 rfl (lv_at hl 1 rfl) ?_
  refine lv_iconst (v := (0 : Int32)) hx hb dX12_back_1 (by decide) ?_
  refine lv_iconst (v := (1 : Int32)) hx hb dX12_back_2 (by decide) ?_
  obtain ⟨r_1, hc_2, hf⟩ := pcl_e hf
  refine m_callS2 (As := [.int x1, .int (0 : Int32), .int (1 : Int32)]) (rest := []) ⟨hx, hb, hml, hown, hts⟩ hX (ct_X12_in l D cA x1 (0 : Int32) (1 : Int32) r_1 hc_2) (va_cwS 3 hts gX12_back_X12_in rfl rfl rfl (by decide +kernel) ⟨Nat.le_of_ble_eq_true rfl, Nat.le_of_ble_eq_true rfl⟩) hP hD hS hA [] [0, 1, 2, 3, 4, 5, 6, 7, 8, 9, 10, 11] 12 (by decide) rfl rfl (WS' := (w_X12_back a0 q_isKept q_books q_sheets q_knowns q_digs q_told q_marsh q_oldest q_youngest q_known q_weight q_text q_depths q_tune q_far q_years q_months q_ring q_woods q_ends q_wood q_chance q_draft cA s_trace s_typed s_earliest s_latest s_firstYear s_rings s_isKept s_books s_sheets s_knowns s_digs s_told s_marsh s_oldest s_youngest s_known s_weight)) (WR := [(a0, .inr (12, [.long s_trace, .ref q_text, .int s_typed, .ref q_depths, .ref q_tune, .ref q_far, .ref q_books, .ref q_told, .int s_earliest, .int s_latest, .ref q_years, .ref q_months, .int s_firstYear, .int s_rings, .ref q_ring, .ref q_woods, .ref q_ends, .ref q_wood, .ref q_sheets, .ref q_marsh, .ref q_oldest, .ref q_youngest, .ref q_knowns, .ref q_known, .ref q_weight, .ref q_chance, .ref q_digs, .ref q_draft, .ref q_isKept])), (q_isKept, .inl (cA 3, 2, .inl s_isKept)), (q_books, .inl (cA 1, 3, .inl s_books)), (q_sheets, .inl (cA 1, 3, .inl s_sheets)), (q_knowns, .inl (cA 1, 3, .inl s_knowns)), (q_digs, .inl (cA 1, 3, .inl s_digs)), (q_told, .inl (cA 1, 90, .inl s_told)), (q_marsh, .inl (cA 1, 36, .inl s_marsh)), (q_oldest, .inl (cA 1, 36, .inl s_oldest)), (q_youngest, .inl (cA 1, 36, .inl s_youngest)), (q_known, .inl (cA 1, 48, .inl s_known)), (q_weight, .inl (cA 2, 15, .inr (.inl s_weight)))]) rfl rfl rfl rfl (by decide) (by decide) rfl hl.1 rfl (st' := [.int r_1]) rfl (Nat.le_of_ble_eq_true rfl) ⟨Nat.zero_le _, Nat.zero_le _⟩ dX12_back_3 (fun H locs hP hD hS => ?_)
  refine lv_if_ne (tgt := 11) hx hb dX12_back_6 (by decide) (fun c_3 => ?_) (fun c_3 => ?_)
  · have hf := pbr_f c_3 hf
    refine lv_aload_n hx hb dX12_back_11 rfl (lv_at hl 0 rfl) ?_
    refine va_get (D := D) (ci := 12) (v := .ref q_isKept) (C := RX12) (T := TX12) (N := 29) hx hb hts hn_X12_back_X12 hown hK hP 0 rfl rfl 28 (by decide) (hts _ hw_X12_back_f78) (fun _ h9 => h9) rfl dX12_back_12 ?_
    refine lv_iload_n hx hb dX12_back_15 rfl (lv_at hl 1 rfl) ?_
    obtain ⟨g_4, hf⟩ := pgd_e hf
    refine va_zald hx hb hK hP 1 3 rfl rfl g_4 dX12_back_16 ?_
    refine lv_if_ne (tgt := 23) hx hb dX12_back_17 (by decide) (fun c_5 => ?_) (fun c_5 => ?_)
    · have hf := pbr_f c_5 hf
      refine lv_aload_n hx hb dX12_back_23 rfl (lv_at hl 0 rfl) ?_
      refine lv_iconst (v := (1 : Int32)) hx hb dX12_back_24 (by decide) ?_
      refine lv_iload_n hx hb dX12_back_25 rfl (lv_at hl 1 rfl) ?_
      refine lv_iadd hx hb dX12_back_26 ?_
      refine lv_iconst (v := (0 : Int32)) hx hb dX12_back_27 (by decide) ?_
      obtain ⟨⟨books_6, sheets_7, knowns_8, digs_9, told_10, marsh_11, oldest_12, youngest_13, known_14, weight_15⟩, hc_16, hf⟩ := pcl_e hf
      refine m_callV2 (As := [.int ((1 : Int32) + x1), .int (0 : Int32)]) (rest := []) ⟨hx, hb, hml, hown, hts⟩ hX (ct_X12_copy l D cA ((1 : Int32) + x1) (0 : Int32) a0 q_books q_sheets q_knowns q_digs q_told q_marsh q_oldest q_youngest q_known q_weight q_text q_depths q_tune q_far q_years q_months q_ring q_woods q_ends q_wood q_chance q_draft q_isKept s_trace s_typed s_earliest s_latest s_firstYear s_rings s_books s_sheets s_knowns s_digs s_told s_marsh s_oldest s_youngest s_known s_weight books_6 sheets_7 knowns_8 digs_9 told_10 marsh_11 oldest_12 youngest_13 known_14 weight_15 hc_16) (cwV 2 hts gX12_back_X12_copy rfl rfl rfl (by decide +kernel) ⟨Nat.le_of_ble_eq_true rfl, Nat.le_of_ble_eq_true rfl⟩) hP hD hS hA [0, 2, 3, 4, 5, 6, 7, 8, 9, 10, 11] [1] 12 (by decide) rfl rfl (WS' := (w_X12_back a0 q_isKept q_books q_sheets q_knowns q_digs q_told q_marsh q_oldest q_youngest q_known q_weight q_text q_depths q_tune q_far q_years q_months q_ring q_woods q_ends q_wood q_chance q_draft cA s_trace s_typed s_earliest s_latest s_firstYear s_rings s_isKept books_6 sheets_7 knowns_8 digs_9 told_10 marsh_11 oldest_12 youngest_13 known_14 weight_15)) (WR := [(q_isKept, .inl (cA 3, 2, .inl s_isKept))]) rfl rfl rfl rfl (by decide) (by decide) 0 12 rfl rfl rfl hl.1 rfl (st' := []) rfl (Nat.le_of_ble_eq_true rfl) ⟨Nat.zero_le _, Nat.zero_le _⟩ dX12_back_28 (fun H locs hP hD hS => ?_)
      refine lv_aload_n hx hb dX12_back_31 rfl (lv_at hl 0 rfl) ?_
      refine va_get (D := D) (ci := 12) (v := .ref q_sheets) (C := RX12) (T := TX12) (N := 29) hx hb hts hn_X12_back_X12 hown hK hP 0 rfl rfl 18 (by decide) (hts _ hw_X12_back_f47) (fun _ h9 => h9) rfl dX12_back_32 ?_
      refine lv_iconst (v := (0 : Int32)) hx hb dX12_back_35 (by decide) ?_
      refine va_iald hx hb hK hP 3 1 rfl rfl (show pin (0 : Int32) 3 by decide +kernel) dX12_back_36 ?_
      obtain ⟨rfl, rfl, rfl, rfl, rfl, rfl, rfl, rfl, rfl, rfl, rfl⟩ := pe11 hf
      exact m_iret hx hb hr hlocks hP hS dX12_back_37
    have hf := pbr_t c_5 hf
    refine lv_bipush (v := (-2 : Int32)) hx hb dX12_back_20 (by decide) ?_
    obtain ⟨rfl, rfl, rfl, rfl, rfl, rfl, rfl, rfl, rfl, rfl, rfl⟩ := pe11 hf
    exact m_iret hx hb hr hlocks hP hS dX12_back_22
  have hf := pbr_t c_3 hf
  refine lv_iconst (v := (-1 : Int32)) hx hb dX12_back_9 (by decide) ?_
  obtain ⟨rfl, rfl, rfl, rfl, rfl, rfl, rfl, rfl, rfl, rfl, rfl⟩ := pe11 hf
  exact m_iret hx hb hr hlocks hP hS dX12_back_10

/-! ===== OrphanWaveModel.count(I)I ===== -/
abbrev rm_X12_count : Room := { frames := 1, cells := 0, slots := 0, locals := 22 }
abbrev w_X12_count (a0 : Nat) (q_depths : Nat) (q_books : Nat) (q_years : Nat) (q_sheets : Nat) (q_knowns : Nat) (q_digs : Nat) (q_text : Nat) (q_tune : Nat) (q_far : Nat) (q_told : Nat) (q_months : Nat) (q_ring : Nat) (q_woods : Nat) (q_ends : Nat) (q_wood : Nat) (q_marsh : Nat) (q_oldest : Nat) (q_youngest : Nat) (q_known : Nat) (q_weight : Nat) (q_chance : Nat) (q_draft : Nat) (q_isKept : Nat) (cA : Nat → ClassId) (s_trace : Int64) (s_typed : Int32) (s_earliest : Int32) (s_latest : Int32) (s_firstYear : Int32) (s_rings : Int32) (s_depths : Nat → Int32) (s_books : Nat → Int32) (s_years : Nat → Int32) (s_sheets : Nat → Int32) (s_knowns : Nat → Int32) (s_digs : Nat → Int32) : va_W := [(a0, .inr (12, [.long s_trace, .ref q_text, .int s_typed, .ref q_depths, .ref q_tune, .ref q_far, .ref q_books, .ref q_told, .int s_earliest, .int s_latest, .ref q_years, .ref q_months, .int s_firstYear, .int s_rings, .ref q_ring, .ref q_woods, .ref q_ends, .ref q_wood, .ref q_sheets, .ref q_marsh, .ref q_oldest, .ref q_youngest, .ref q_knowns, .ref q_known, .ref q_weight, .ref q_chance, .ref q_digs, .ref q_draft, .ref q_isKept])), (q_depths, .inl (cA 1, 96, .inl s_depths)), (q_books, .inl (cA 1, 3, .inl s_books)), (q_years, .inl (cA 1, 2, .inl s_years)), (q_sheets, .inl (cA 1, 3, .inl s_sheets)), (q_knowns, .inl (cA 1, 3, .inl s_knowns)), (q_digs, .inl (cA 1, 3, .inl s_digs))]
theorem hn_X12_count_X12 : ∀ w ∈ u_ws RX12 TX12 29, w ∈ wsX12_count := by decide +kernel
theorem hw_X12_count_f23 : Cond.fieldLink RX12 23 "OrphanWaveModel" "books" "[I" ∈ wsX12_count := by decide +kernel
theorem hw_X12_count_f29 : Cond.fieldLink RX12 29 "OrphanWaveModel" "years" "[I" ∈ wsX12_count := by decide +kernel
theorem hw_X12_count_f141 : Cond.fieldLink RX12 141 "OrphanWaveModel" "rings" "I" ∈ wsX12_count := by decide +kernel
theorem hw_X12_count_f47 : Cond.fieldLink RX12 47 "OrphanWaveModel" "sheets" "[I" ∈ wsX12_count := by decide +kernel
theorem hw_X12_count_f59 : Cond.fieldLink RX12 59 "OrphanWaveModel" "knowns" "[I" ∈ wsX12_count := by decide +kernel
theorem hw_X12_count_f72 : Cond.fieldLink RX12 72 "OrphanWaveModel" "digs" "[I" ∈ wsX12_count := by decide +kernel
theorem hw_X12_count_f90 : Cond.fieldLink RX12 90 "OrphanWaveModel" "typed" "I" ∈ wsX12_count := by decide +kernel

def f_X12_count (x1 : Int32) (s_typed : Int32) (s_rings : Int32) (s_depths : Nat → Int32) (s_books : Nat → Int32) (s_years : Nat → Int32) (s_sheets : Nat → Int32) (s_knowns : Nat → Int32) (s_digs : Nat → Int32) : Option ((Int32)) :=
  pbr (x1 = (0 : Int32))
    (pcl (f_X12_sea s_depths) (fun r_2 => (
    some (r_2))))
  (pbr (x1 = (1 : Int32))
    (some ((s_books (0 : Int32).toNatClampNeg)))
  (pbr (x1 = (2 : Int32))
    (some ((s_years (0 : Int32).toNatClampNeg)))
  (pbr (x1 = (3 : Int32))
    (some (s_rings))
  (pbr (x1 = (4 : Int32))
    (some ((s_sheets (0 : Int32).toNatClampNeg)))
  (pbr (x1 = (5 : Int32))
    (some ((s_knowns (0 : Int32).toNatClampNeg)))
  (pbr (x1 = (6 : Int32))
    (pcl (f_X12_bitsIn (s_digs (0 : Int32).toNatClampNeg)) (fun r_10 => (
    some (r_10))))
  (pbr (x1 = (7 : Int32))
    (some (s_typed))
  (some ((-1 : Int32))))))))))

set_option maxRecDepth 100000 in
set_option maxHeartbeats 4000000 in
theorem ct_X12_count (l : Launch) (D : va_G) (cA : Nat → ClassId) (x1 : Int32) (a0 : Nat) (q_depths : Nat) (q_books : Nat) (q_years : Nat) (q_sheets : Nat) (q_knowns : Nat) (q_digs : Nat) (q_text : Nat) (q_tune : Nat) (q_far : Nat) (q_told : Nat) (q_months : Nat) (q_ring : Nat) (q_woods : Nat) (q_ends : Nat) (q_wood : Nat) (q_marsh : Nat) (q_oldest : Nat) (q_youngest : Nat) (q_known : Nat) (q_weight : Nat) (q_chance : Nat) (q_draft : Nat) (q_isKept : Nat) (s_trace : Int64) (s_typed : Int32) (s_earliest : Int32) (s_latest : Int32) (s_firstYear : Int32) (s_rings : Int32) (s_depths : Nat → Int32) (s_books : Nat → Int32) (s_years : Nat → Int32) (s_sheets : Nat → Int32) (s_knowns : Nat → Int32) (s_digs : Nat → Int32) (o_r : Int32) (hf : f_X12_count x1 s_typed s_rings s_depths s_books s_years s_sheets s_knowns s_digs = some o_r) : CT l yX12_count wsX12_count rm_X12_count D cA [.ref a0, .int x1] (w_X12_count a0 q_depths q_books q_years q_sheets q_knowns q_digs q_text q_tune q_far q_told q_months q_ring q_woods q_ends q_wood q_marsh q_oldest q_youngest q_known q_weight q_chance q_draft q_isKept cA s_trace s_typed s_earliest s_latest s_firstYear s_rings s_depths s_books s_years s_sheets s_knowns s_digs) (w_X12_count a0 q_depths q_books q_years q_sheets q_knowns q_digs q_text q_tune q_far q_told q_months q_ring q_woods q_ends q_wood q_marsh q_oldest q_youngest q_known q_weight q_chance q_draft q_isKept cA s_trace s_typed s_earliest s_latest s_firstYear s_rings s_depths s_books s_years s_sheets s_knowns s_digs) (some (.int o_r)) := by
  refine CT.ofW (cc := cX12_count) (maxL := 2) (ret := (some .int)) (by decide +kernel) rfl (Nat.le_of_ble_eq_true rfl) ?_
  intro p e s m below meth c A C0 hA hP hD ls hl
  have C0 : MX p s m [.ref a0, .int x1].toArray meth c cX12_count 2 wsX12_count RX12 (some .int) D cA := C0
  have hl : lv_has ls 2 [(0, .ref a0), (1, .int x1)] := hl
  obtain ⟨hx, hb, hml, hown, hts, hr, hlocks, hX⟩ := id C0
  have hK := hX.1
  have hN := hX.2
  have hS : va_S A s.heap s.heap [] := va_S.rf
  unfold f_X12_count at hf
  refine lv_iload_n hx hb dX12_count_0 rfl (lv_at hl 1 rfl) ?_
  by_cases c_1 : x1 = (0 : Int32)
  · have hf := pbr_t c_1 hf
    refine lv_tableIn (off := 47) (tgt := 48) hx hb dX12_count_1 (by rw [c_1]; decide) (by rw [c_1]; decide) (by rw [c_1]; rfl) (by decide) ?_
    refine lv_aload_n hx hb dX12_count_48 rfl (lv_at hl 0 rfl) ?_
    obtain ⟨r_2, hc_3, hf⟩ := pcl_e hf
    refine m_callV2 (As := []) (rest := []) ⟨hx, hb, hml, hown, hts⟩ hX (ct_X12_sea l D cA a0 q_depths q_text q_tune q_far q_books q_told q_years q_months q_ring q_woods q_ends q_wood q_sheets q_marsh q_oldest q_youngest q_knowns q_known q_weight q_chance q_digs q_draft q_isKept s_trace s_typed s_earliest s_latest s_firstYear s_rings s_depths r_2 hc_3) (cwV 0 hts gX12_count_X12_sea rfl rfl rfl (by decide +kernel) ⟨Nat.le_of_ble_eq_true rfl, Nat.le_of_ble_eq_true rfl⟩) hP hD hS hA [0, 1] [2, 3, 4, 5, 6] 7 (by decide) rfl rfl (WS' := (w_X12_count a0 q_depths q_books q_years q_sheets q_knowns q_digs q_text q_tune q_far q_told q_months q_ring q_woods q_ends q_wood q_marsh q_oldest q_youngest q_known q_weight q_chance q_draft q_isKept cA s_trace s_typed s_earliest s_latest s_firstYear s_rings s_depths s_books s_years s_sheets s_knowns s_digs)) (WR := [(q_books, .inl (cA 1, 3, .inl s_books)), (q_years, .inl (cA 1, 2, .inl s_years)), (q_sheets, .inl (cA 1, 3, .inl s_sheets)), (q_knowns, .inl (cA 1, 3, .inl s_knowns)), (q_digs, .inl (cA 1, 3, .inl s_digs))]) rfl rfl rfl rfl (by decide) (by decide) 0 12 rfl rfl rfl hl.1 rfl (st' := [.int r_2]) rfl (Nat.le_of_ble_eq_true rfl) ⟨Nat.zero_le _, Nat.zero_le _⟩ dX12_count_49 (fun H locs hP hD hS => ?_)
    obtain rfl := pe1 hf
    exact m_iret hx hb hr hlocks hP hS dX12_count_52
  have hf := pbr_f c_1 hf
  by_cases c_4 : x1 = (1 : Int32)
  · have hf := pbr_t c_4 hf
    refine lv_tableIn (off := 52) (tgt := 53) hx hb dX12_count_1 (by rw [c_4]; decide) (by rw [c_4]; decide) (by rw [c_4]; rfl) (by decide) ?_
    refine lv_aload_n hx hb dX12_count_53 rfl (lv_at hl 0 rfl) ?_
    refine va_get (D := D) (ci := 12) (v := .ref q_books) (C := RX12) (T := TX12) (N := 29) hx hb hts hn_X12_count_X12 hown hK hP 0 rfl rfl 6 (by decide) (hts _ hw_X12_count_f23) (fun _ h9 => h9) rfl dX12_count_54 ?_
    refine lv_iconst (v := (0 : Int32)) hx hb dX12_count_57 (by decide) ?_
    refine va_iald hx hb hK hP 2 1 rfl rfl (show pin (0 : Int32) 3 by decide +kernel) dX12_count_58 ?_
    obtain rfl := pe1 hf
    exact m_iret hx hb hr hlocks hP hS dX12_count_59
  have hf := pbr_f c_4 hf
  by_cases c_5 : x1 = (2 : Int32)
  · have hf := pbr_t c_5 hf
    refine lv_tableIn (off := 59) (tgt := 60) hx hb dX12_count_1 (by rw [c_5]; decide) (by rw [c_5]; decide) (by rw [c_5]; rfl) (by decide) ?_
    refine lv_aload_n hx hb dX12_count_60 rfl (lv_at hl 0 rfl) ?_
    refine va_get (D := D) (ci := 12) (v := .ref q_years) (C := RX12) (T := TX12) (N := 29) hx hb hts hn_X12_count_X12 hown hK hP 0 rfl rfl 10 (by decide) (hts _ hw_X12_count_f29) (fun _ h9 => h9) rfl dX12_count_61 ?_
    refine lv_iconst (v := (0 : Int32)) hx hb dX12_count_64 (by decide) ?_
    refine va_iald hx hb hK hP 3 1 rfl rfl (show pin (0 : Int32) 2 by decide +kernel) dX12_count_65 ?_
    obtain rfl := pe1 hf
    exact m_iret hx hb hr hlocks hP hS dX12_count_66
  have hf := pbr_f c_5 hf
  by_cases c_6 : x1 = (3 : Int32)
  · have hf := pbr_t c_6 hf
    refine lv_tableIn (off := 66) (tgt := 67) hx hb dX12_count_1 (by rw [c_6]; decide) (by rw [c_6]; decide) (by rw [c_6]; rfl) (by decide) ?_
    refine lv_aload_n hx hb dX12_count_67 rfl (lv_at hl 0 rfl) ?_
    refine va_get (D := D) (ci := 12) (v := .int s_rings) (C := RX12) (T := TX12) (N := 29) hx hb hts hn_X12_count_X12 hown hK hP 0 rfl rfl 13 (by decide) (hts _ hw_X12_count_f141) (fun _ h9 => h9) rfl dX12_count_68 ?_
    obtain rfl := pe1 hf
    exact m_iret hx hb hr hlocks hP hS dX12_count_71
  have hf := pbr_f c_6 hf
  by_cases c_7 : x1 = (4 : Int32)
  · have hf := pbr_t c_7 hf
    refine lv_tableIn (off := 71) (tgt := 72) hx hb dX12_count_1 (by rw [c_7]; decide) (by rw [c_7]; decide) (by rw [c_7]; rfl) (by decide) ?_
    refine lv_aload_n hx hb dX12_count_72 rfl (lv_at hl 0 rfl) ?_
    refine va_get (D := D) (ci := 12) (v := .ref q_sheets) (C := RX12) (T := TX12) (N := 29) hx hb hts hn_X12_count_X12 hown hK hP 0 rfl rfl 18 (by decide) (hts _ hw_X12_count_f47) (fun _ h9 => h9) rfl dX12_count_73 ?_
    refine lv_iconst (v := (0 : Int32)) hx hb dX12_count_76 (by decide) ?_
    refine va_iald hx hb hK hP 4 1 rfl rfl (show pin (0 : Int32) 3 by decide +kernel) dX12_count_77 ?_
    obtain rfl := pe1 hf
    exact m_iret hx hb hr hlocks hP hS dX12_count_78
  have hf := pbr_f c_7 hf
  by_cases c_8 : x1 = (5 : Int32)
  · have hf := pbr_t c_8 hf
    refine lv_tableIn (off := 78) (tgt := 79) hx hb dX12_count_1 (by rw [c_8]; decide) (by rw [c_8]; decide) (by rw [c_8]; rfl) (by decide) ?_
    refine lv_aload_n hx hb dX12_count_79 rfl (lv_at hl 0 rfl) ?_
    refine va_get (D := D) (ci := 12) (v := .ref q_knowns) (C := RX12) (T := TX12) (N := 29) hx hb hts hn_X12_count_X12 hown hK hP 0 rfl rfl 22 (by decide) (hts _ hw_X12_count_f59) (fun _ h9 => h9) rfl dX12_count_80 ?_
    refine lv_iconst (v := (0 : Int32)) hx hb dX12_count_83 (by decide) ?_
    refine va_iald hx hb hK hP 5 1 rfl rfl (show pin (0 : Int32) 3 by decide +kernel) dX12_count_84 ?_
    obtain rfl := pe1 hf
    exact m_iret hx hb hr hlocks hP hS dX12_count_85
  have hf := pbr_f c_8 hf
  by_cases c_9 : x1 = (6 : Int32)
  · have hf := pbr_t c_9 hf
    refine lv_tableIn (off := 85) (tgt := 86) hx hb dX12_count_1 (by rw [c_9]; decide) (by rw [c_9]; decide) (by rw [c_9]; rfl) (by decide) ?_
    refine lv_aload_n hx hb dX12_count_86 rfl (lv_at hl 0 rfl) ?_
    refine va_get (D := D) (ci := 12) (v := .ref q_digs) (C := RX12) (T := TX12) (N := 29) hx hb hts hn_X12_count_X12 hown hK hP 0 rfl rfl 26 (by decide) (hts _ hw_X12_count_f72) (fun _ h9 => h9) rfl dX12_count_87 ?_
    refine lv_iconst (v := (0 : Int32)) hx hb dX12_count_90 (by decide) ?_
    refine va_iald hx hb hK hP 6 1 rfl rfl (show pin (0 : Int32) 3 by decide +kernel) dX12_count_91 ?_
    obtain ⟨r_10, hc_11, hf⟩ := pcl_e hf
    refine m_callS2 (As := [.int (s_digs (0 : Int32).toNatClampNeg)]) (rest := []) ⟨hx, hb, hml, hown, hts⟩ hX (ct_X12_bitsIn l D cA (s_digs (0 : Int32).toNatClampNeg) r_10 hc_11) (va_cwS 1 hts gX12_count_X12_bitsIn rfl rfl rfl (by decide +kernel) ⟨Nat.le_of_ble_eq_true rfl, Nat.le_of_ble_eq_true rfl⟩) hP hD hS hA [] [0, 1, 2, 3, 4, 5, 6] 7 (by decide) rfl rfl (WS' := (w_X12_count a0 q_depths q_books q_years q_sheets q_knowns q_digs q_text q_tune q_far q_told q_months q_ring q_woods q_ends q_wood q_marsh q_oldest q_youngest q_known q_weight q_chance q_draft q_isKept cA s_trace s_typed s_earliest s_latest s_firstYear s_rings s_depths s_books s_years s_sheets s_knowns s_digs)) (WR := [(a0, .inr (12, [.long s_trace, .ref q_text, .int s_typed, .ref q_depths, .ref q_tune, .ref q_far, .ref q_books, .ref q_told, .int s_earliest, .int s_latest, .ref q_years, .ref q_months, .int s_firstYear, .int s_rings, .ref q_ring, .ref q_woods, .ref q_ends, .ref q_wood, .ref q_sheets, .ref q_marsh, .ref q_oldest, .ref q_youngest, .ref q_knowns, .ref q_known, .ref q_weight, .ref q_chance, .ref q_digs, .ref q_draft, .ref q_isKept])), (q_depths, .inl (cA 1, 96, .inl s_depths)), (q_books, .inl (cA 1, 3, .inl s_books)), (q_years, .inl (cA 1, 2, .inl s_years)), (q_sheets, .inl (cA 1, 3, .inl s_sheets)), (q_knowns, .inl (cA 1, 3, .inl s_knowns)), (q_digs, .inl (cA 1, 3, .inl s_digs))]) rfl rfl rfl rfl (by decide) (by decide) rfl hl.1 rfl (st' := [.int r_10]) rfl (Nat.le_of_ble_eq_true rfl) ⟨Nat.zero_le _, Nat.zero_le _⟩ dX12_count_92 (fun H locs hP hD hS => ?_)
    obtain rfl := pe1 hf
    exact m_iret hx hb hr hlocks hP hS dX12_count_95
  have hf := pbr_f c_9 hf
  by_cases c_12 : x1 = (7 : Int32)
  · have hf := pbr_t c_12 hf
    refine lv_tableIn (off := 95) (tgt := 96) hx hb dX12_count_1 (by rw [c_12]; decide) (by rw [c_12]; decide) (by rw [c_12]; rfl) (by decide) ?_
    refine lv_aload_n hx hb dX12_count_96 rfl (lv_at hl 0 rfl) ?_
    refine va_get (D := D) (ci := 12) (v := .int s_typed) (C := RX12) (T := TX12) (N := 29) hx hb hts hn_X12_count_X12 hown hK hP 0 rfl rfl 2 (by decide) (hts _ hw_X12_count_f90) (fun _ h9 => h9) rfl dX12_count_97 ?_
    obtain rfl := pe1 hf
    exact m_iret hx hb hr hlocks hP hS dX12_count_100
  have hf := pbr_f c_12 hf
  refine lv_tableOut (tgt := 101) hx hb dX12_count_1 (by have := lv_neT (a := 0) c_1 (by decide); have := lv_neT (a := 1) c_4 (by decide); have := lv_neT (a := 2) c_5 (by decide); have := lv_neT (a := 3) c_6 (by decide); have := lv_neT (a := 4) c_7 (by decide); have := lv_neT (a := 5) c_8 (by decide); have := lv_neT (a := 6) c_9 (by decide); have := lv_neT (a := 7) c_12 (by decide); omega) (by decide) ?_
  refine lv_iconst (v := (-1 : Int32)) hx hb dX12_count_101 (by decide) ?_
  obtain rfl := pe1 hf
  exact m_iret hx hb hr hlocks hP hS dX12_count_102

/-! ===== OrphanWaveModel.trace()J ===== -/
abbrev rm_X12_trace : Room := { frames := 0, cells := 0, slots := 0, locals := 0 }
abbrev w_X12_trace (a0 : Nat) (q_text : Nat) (q_depths : Nat) (q_tune : Nat) (q_far : Nat) (q_books : Nat) (q_told : Nat) (q_years : Nat) (q_months : Nat) (q_ring : Nat) (q_woods : Nat) (q_ends : Nat) (q_wood : Nat) (q_sheets : Nat) (q_marsh : Nat) (q_oldest : Nat) (q_youngest : Nat) (q_knowns : Nat) (q_known : Nat) (q_weight : Nat) (q_chance : Nat) (q_digs : Nat) (q_draft : Nat) (q_isKept : Nat) (cA : Nat → ClassId) (s_trace : Int64) (s_typed : Int32) (s_earliest : Int32) (s_latest : Int32) (s_firstYear : Int32) (s_rings : Int32) : va_W := [(a0, .inr (12, [.long s_trace, .ref q_text, .int s_typed, .ref q_depths, .ref q_tune, .ref q_far, .ref q_books, .ref q_told, .int s_earliest, .int s_latest, .ref q_years, .ref q_months, .int s_firstYear, .int s_rings, .ref q_ring, .ref q_woods, .ref q_ends, .ref q_wood, .ref q_sheets, .ref q_marsh, .ref q_oldest, .ref q_youngest, .ref q_knowns, .ref q_known, .ref q_weight, .ref q_chance, .ref q_digs, .ref q_draft, .ref q_isKept]))]
theorem hn_X12_trace_X12 : ∀ w ∈ u_ws RX12 TX12 29, w ∈ wsX12_trace := by decide +kernel
theorem hw_X12_trace_f175 : Cond.fieldLink RX12 175 "OrphanWaveModel" "trace" "J" ∈ wsX12_trace := by decide +kernel

def f_X12_trace (s_trace : Int64) : Option ((Int64)) :=
  some (s_trace)

set_option maxRecDepth 100000 in
set_option maxHeartbeats 4000000 in
theorem ct_X12_trace (l : Launch) (D : va_G) (cA : Nat → ClassId) (a0 : Nat) (q_text : Nat) (q_depths : Nat) (q_tune : Nat) (q_far : Nat) (q_books : Nat) (q_told : Nat) (q_years : Nat) (q_months : Nat) (q_ring : Nat) (q_woods : Nat) (q_ends : Nat) (q_wood : Nat) (q_sheets : Nat) (q_marsh : Nat) (q_oldest : Nat) (q_youngest : Nat) (q_knowns : Nat) (q_known : Nat) (q_weight : Nat) (q_chance : Nat) (q_digs : Nat) (q_draft : Nat) (q_isKept : Nat) (s_trace : Int64) (s_typed : Int32) (s_earliest : Int32) (s_latest : Int32) (s_firstYear : Int32) (s_rings : Int32) (o_r : Int64) (hf : f_X12_trace s_trace = some o_r) : CT l yX12_trace wsX12_trace rm_X12_trace D cA [.ref a0] (w_X12_trace a0 q_text q_depths q_tune q_far q_books q_told q_years q_months q_ring q_woods q_ends q_wood q_sheets q_marsh q_oldest q_youngest q_knowns q_known q_weight q_chance q_digs q_draft q_isKept cA s_trace s_typed s_earliest s_latest s_firstYear s_rings) (w_X12_trace a0 q_text q_depths q_tune q_far q_books q_told q_years q_months q_ring q_woods q_ends q_wood q_sheets q_marsh q_oldest q_youngest q_knowns q_known q_weight q_chance q_digs q_draft q_isKept cA s_trace s_typed s_earliest s_latest s_firstYear s_rings) (some (.long o_r)) := by
  refine CT.ofW (cc := cX12_trace) (maxL := 1) (ret := (some .long)) (by decide +kernel) rfl (Nat.le_of_ble_eq_true rfl) ?_
  intro p e s m below meth c A C0 hA hP hD ls hl
  have C0 : MX p s m [.ref a0].toArray meth c cX12_trace 1 wsX12_trace RX12 (some .long) D cA := C0
  have hl : lv_has ls 1 [(0, .ref a0)] := hl
  obtain ⟨hx, hb, hml, hown, hts, hr, hlocks, hX⟩ := id C0
  have hK := hX.1
  have hN := hX.2
  have hS : va_S A s.heap s.heap [] := va_S.rf
  unfold f_X12_trace at hf
  refine lv_aload_n hx hb dX12_trace_0 rfl (lv_at hl 0 rfl) ?_
  refine va_get (D := D) (ci := 12) (v := .long s_trace) (C := RX12) (T := TX12) (N := 29) hx hb hts hn_X12_trace_X12 hown hK hP 0 rfl rfl 0 (by decide) (hts _ hw_X12_trace_f175) (fun _ h9 => h9) rfl dX12_trace_1 ?_
  obtain rfl := pe1 hf
  exact m_lret hx hb hr hlocks hP hS dX12_trace_4
