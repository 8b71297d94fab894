/-! ===== OrphanWaveModel.sheet(III)I ===== -/
abbrev rm_X12_sheet : Room := { frames := 1, cells := 0, slots := 0, locals := 22 }
abbrev w_X12_sheet (a0 : Nat) (q_sheets : Nat) (q_marsh : Nat) (q_oldest : Nat) (q_youngest : Nat) (q_text : Nat) (q_depths : Nat) (q_tune : Nat) (q_far : Nat) (q_books : Nat) (q_told : Nat) (q_years : Nat) (q_months : Nat) (q_ring : Nat) (q_woods : Nat) (q_ends : Nat) (q_wood : Nat) (q_knowns : Nat) (q_known : Nat) (q_weight : Nat) (q_chance : Nat) (q_digs : Nat) (q_draft : Nat) (q_isKept : Nat) (cA : Nat → ClassId) (s_trace : Int64) (s_typed : Int32) (s_earliest : Int32) (s_latest : Int32) (s_firstYear : Int32) (s_rings : Int32) (s_sheets : Nat → Int32) (s_marsh : Nat → Int32) (s_oldest : Nat → Int32) (s_youngest : Nat → Int32) : va_W := [(a0, .inr (12, [.long s_trace, .ref q_text, .int s_typed, .ref q_depths, .ref q_tune, .ref q_far, .ref q_books, .ref q_told, .int s_earliest, .int s_latest, .ref q_years, .ref q_months, .int s_firstYear, .int s_rings, .ref q_ring, .ref q_woods, .ref q_ends, .ref q_wood, .ref q_sheets, .ref q_marsh, .ref q_oldest, .ref q_youngest, .ref q_knowns, .ref q_known, .ref q_weight, .ref q_chance, .ref q_digs, .ref q_draft, .ref q_isKept])), (q_sheets, .inl (cA 1, 3, .inl s_sheets)), (q_marsh, .inl (cA 1, 36, .inl s_marsh)), (q_oldest, .inl (cA 1, 36, .inl s_oldest)), (q_youngest, .inl (cA 1, 36, .inl s_youngest))]
theorem hn_X12_sheet_X12 : ∀ w ∈ u_ws RX12 TX12 29, w ∈ wsX12_sheet := by decide +kernel
theorem hw_X12_sheet_f47 : Cond.fieldLink RX12 47 "OrphanWaveModel" "sheets" "[I" ∈ wsX12_sheet := by decide +kernel
theorem hw_X12_sheet_f50 : Cond.fieldLink RX12 50 "OrphanWaveModel" "marsh" "[I" ∈ wsX12_sheet := by decide +kernel
theorem hw_X12_sheet_f53 : Cond.fieldLink RX12 53 "OrphanWaveModel" "oldest" "[I" ∈ wsX12_sheet := by decide +kernel
theorem hw_X12_sheet_f56 : Cond.fieldLink RX12 56 "OrphanWaveModel" "youngest" "[I" ∈ wsX12_sheet := by decide +kernel

def f_X12_sheet (x1 : Int32) (x2 : Int32) (x3 : Int32) (s_sheets : Nat → Int32) (s_marsh : Nat → Int32) (s_oldest : Nat → Int32) (s_youngest : Nat → Int32) : Option ((Int32) × (Nat → Int32) × (Nat → Int32) × (Nat → Int32) × (Nat → Int32)) :=
  pcl (f_X12_in x1 (0 : Int32) (5 : Int32)) (fun r_1 => (
  pbr (r_1 = 0)
    (some ((-1 : Int32), s_sheets, s_marsh, s_oldest, s_youngest))
    (pcl (f_X12_in x2 (0 : Int32) (9999 : Int32)) (fun r_4 => (
    pbr (r_4 = 0)
      (some ((-1 : Int32), s_sheets, s_marsh, s_oldest, s_youngest))
      (pcl (f_X12_in x3 x2 (9999 : Int32)) (fun r_7 => (
      pbr (r_7 = 0)
        (some ((-1 : Int32), s_sheets, s_marsh, s_oldest, s_youngest))
        (pbr ((s_sheets (0 : Int32).toNatClampNeg) = (12 : Int32))
          (some ((-3 : Int32), s_sheets, s_marsh, s_oldest, s_youngest))
          (plt ((s_sheets (0 : Int32).toNatClampNeg) : Int32) (fun x4_11 => (
          pgd (pin x4_11 36) (
          plt (upd s_marsh x4_11.toNatClampNeg x1 : Nat → Int32) (fun f_13 => (
          plt (upd s_oldest x4_11.toNatClampNeg x2 : Nat → Int32) (fun f_14 => (
          plt (upd s_youngest x4_11.toNatClampNeg x3 : Nat → Int32) (fun f_15 => (
          plt (upd s_sheets (0 : Int32).toNatClampNeg ((s_sheets (0 : Int32).toNatClampNeg) + (1 : Int32)) : Nat → Int32) (fun f_16 => (
          some (x4_11, f_16, f_13, f_14, f_15))))))))))))))))))))))

set_option maxRecDepth 100000 in
set_option maxHeartbeats 4000000 in
theorem ct_X12_sheet (l : Launch) (D : va_G) (cA : Nat → ClassId) (x1 : Int32) (x2 : Int32) (x3 : Int32) (a0 : Nat) (q_sheets : Nat) (q_marsh : Nat) (q_oldest : Nat) (q_youngest : Nat) (q_text : Nat) (q_depths : Nat) (q_tune : Nat) (q_far : Nat) (q_books : Nat) (q_told : Nat) (q_years : Nat) (q_months : Nat) (q_ring : Nat) (q_woods : Nat) (q_ends : Nat) (q_wood : Nat) (q_knowns : Nat) (q_known : Nat) (q_weight : Nat) (q_chance : Nat) (q_digs : Nat) (q_draft : Nat) (q_isKept : Nat) (s_trace : Int64) (s_typed : Int32) (s_earliest : Int32) (s_latest : Int32) (s_firstYear : Int32) (s_rings : Int32) (s_sheets : Nat → Int32) (s_marsh : Nat → Int32) (s_oldest : Nat → Int32) (s_youngest : Nat → Int32) (o_r : Int32) (o_sheets : Nat → Int32) (o_marsh : Nat → Int32) (o_oldest : Nat → Int32) (o_youngest : Nat → Int32) (hf : f_X12_sheet x1 x2 x3 s_sheets s_marsh s_oldest s_youngest = some (o_r, o_sheets, o_marsh, o_oldest, o_youngest)) : CT l yX12_sheet wsX12_sheet rm_X12_sheet D cA [.ref a0, .int x1, .int x2, .int x3] (w_X12_sheet a0 q_sheets q_marsh q_oldest q_youngest q_text q_depths q_tune q_far q_books q_told q_years q_months q_ring q_woods q_ends q_wood q_knowns q_known q_weight q_chance q_digs q_draft q_isKept cA s_trace s_typed s_earliest s_latest s_firstYear s_rings s_sheets s_marsh s_oldest s_youngest) (w_X12_sheet a0 q_sheets q_marsh q_oldest q_youngest q_text q_depths q_tune q_far q_books q_told q_years q_months q_ring q_woods q_ends q_wood q_knowns q_known q_weight q_chance q_digs q_draft q_isKept cA s_trace s_typed s_earliest s_latest s_firstYear s_rings o_sheets o_marsh o_oldest o_youngest) (some (.int o_r)) := by
  refine CT.ofW (cc := cX12_sheet) (maxL := 5) (ret := (some .int)) (by decide +kernel) rfl (Nat.le_of_ble_eq_true rfl) ?_
  intro p e s m below meth c A C0 hA hP hD ls hl
  have C0 : MX p s m [.ref a0, .int x1, .int x2, .int x3].toArray meth c cX12_sheet 5 wsX12_sheet RX12 (some .int) D cA := C0
  have hl : lv_has ls 5 [(0, .ref a0), (1, .int x1), (2, .int x2), (3, .int x3)] := hl
  obtain ⟨hx, hb, hml, hown, hts, hr, hlocks, hX⟩ := id C0
  have hK := hX.1
  have hN := hX.2
  have hS : va_S A s.heap s.heap [] := va_S.rf
  unfold f_X12_sheet at hf
  refine lv_iload_n hx hb dX12_sheet_0 rfl (lv_at hl 1 rfl) ?_
  refine lv_iconst (v := (0 : Int32)) hx hb dX12_sheet_1 (by decide) ?_
  refine lv_iconst (v := (5 : Int32)) hx hb dX12_sheet_2 (by decide) ?_
  obtain ⟨r_1, hc_2, hf⟩ := pcl_e hf
  refine m_callS2 (As := [.int x1, .int (0 : Int32), .int (5 : Int32)]) (rest := []) ⟨hx, hb, hml, hown, hts⟩ hX (ct_X12_in l D cA x1 (0 : Int32) (5 : Int32) r_1 hc_2) (va_cwS 3 hts gX12_sheet_X12_in rfl rfl rfl (by decide +kernel) ⟨Nat.le_of_ble_eq_true rfl, Nat.le_of_ble_eq_true rfl⟩) hP hD hS hA [] [0, 1, 2, 3, 4] 5 (by decide) rfl rfl (WS' := (w_X12_sheet a0 q_sheets q_marsh q_oldest q_youngest q_text q_depths q_tune q_far q_books q_told q_years q_months q_ring q_woods q_ends q_wood q_knowns q_known q_weight q_chance q_digs q_draft q_isKept cA s_trace s_typed s_earliest s_latest s_firstYear s_rings s_sheets s_marsh s_oldest s_youngest)) (WR := [(a0, .inr (12, [.long s_trace, .ref q_text, .int s_typed, .ref q_depths, .ref q_tune, .ref q_far, .ref q_books, .ref q_told, .int s_earliest, .int s_latest, .ref q_years, .ref q_months, .int s_firstYear, .int s_rings, .ref q_ring, .ref q_woods, .ref q_ends, .ref q_wood, .ref q_sheets, .ref q_marsh, .ref q_oldest, .ref q_youngest, .ref q_knowns, .ref q_known, .ref q_weight, .ref q_chance, .ref q_digs, .ref q_draft, .ref q_isKept])), (q_sheets, .inl (cA 1, 3, .inl s_sheets)), (q_marsh, .inl (cA 1, 36, .inl s_marsh)), (q_oldest, .inl (cA 1, 36, .inl s_oldest)), (q_youngest, .inl (cA 1, 36, .inl s_youngest))]) rfl rfl rfl rfl (by decide) (by decide) rfl hl.1 rfl (st' := [.int r_1]) rfl (Nat.le_of_ble_eq_true rfl) ⟨Nat.zero_le _, Nat.zero_le _⟩ dX12_sheet_3 (fun H locs hP hD hS => ?_)
  refine lv_if_eq (tgt := 31) hx hb dX12_sheet_6 (by decide) (fun c_3 => ?_) (fun c_3 => ?_)
  · have hf := pbr_t c_3 hf
    refine lv_iconst (v := (-1 : Int32)) hx hb dX12_sheet_31 (by decide) ?_
    obtain ⟨rfl, rfl, rfl, rfl, rfl⟩ := pe5 hf
    exact m_iret hx hb hr hlocks hP hS dX12_sheet_32
  have hf := pbr_f c_3 hf
  refine lv_iload_n hx hb dX12_sheet_9 rfl (lv_at hl 2 rfl) ?_
  refine lv_iconst (v := (0 : Int32)) hx hb dX12_sheet_10 (by decide) ?_
  refine lv_sipush (v := (9999 : Int32)) hx hb dX12_sheet_11 (by decide) ?_
  obtain ⟨r_4, hc_5, hf⟩ := pcl_e hf
  refine m_callS2 (As := [.int x2, .int (0 : Int32), .int (9999 : Int32)]) (rest := []) ⟨hx, hb, hml, hown, hts⟩ hX (ct_X12_in l D cA x2 (0 : Int32) (9999 : Int32) r_4 hc_5) (va_cwS 3 hts gX12_sheet_X12_in rfl rfl rfl (by decide +kernel) ⟨Nat.le_of_ble_eq_true rfl, Nat.le_of_ble_eq_true rfl⟩) hP hD hS hA [] [0, 1, 2, 3, 4] 5 (by decide) rfl rfl (WS' := (w_X12_sheet a0 q_sheets q_marsh q_oldest q_youngest q_text q_depths q_tune q_far q_books q_told q_years q_months q_ring q_woods q_ends q_wood q_knowns q_known q_weight q_chance q_digs q_draft q_isKept cA s_trace s_typed s_earliest s_latest s_firstYear s_rings s_sheets s_marsh s_oldest s_youngest)) (WR := [(a0, .inr (12, [.long s_trace, .ref q_text, .int s_typed, .ref q_depths, .ref q_tune, .ref q_far, .ref q_books, .ref q_told, .int s_earliest, .int s_latest, .ref q_years, .ref q_months, .int s_firstYear, .int s_rings, .ref q_ring, .ref q_woods, .ref q_ends, .ref q_wood, .ref q_sheets, .ref q_marsh, .ref q_oldest, .ref q_youngest, .ref q_knowns, .ref q_known, .ref q_weight, .ref q_chance, .ref q_digs, .ref q_draft, .ref q_isKept])), (q_sheets, .inl (cA 1, 3, .inl s_sheets)), (q_marsh, .inl (cA 1, 36, .inl s_marsh)), (q_oldest, .inl (cA 1, 36, .inl s_oldest)), (q_youngest, .inl (cA 1, 36, .inl s_youngest))]) rfl rfl rfl rfl (by decide) (by decide) rfl hl.1 rfl (st' := [.int r_4]) rfl (Nat.le_of_ble_eq_true rfl) ⟨Nat.zero_le _, Nat.zero_le _⟩ dX12_sheet_14 (fun H locs hP hD hS => ?_)
  refine lv_if_eq (tgt := 31) hx hb dX12_sheet_17 (by decide) (fun c_6 => ?_) (fun c_6 => ?_)
  · have hf := pbr_t c_6 hf
    refine lv_iconst (v := (-1 : Int32)) hx hb dX12_sheet_31 (by decide) ?_
    obtain ⟨rfl, rfl, rfl, rfl, rfl⟩ := pe5 hf
    exact m_iret hx hb hr hlocks hP hS dX12_sheet_32
  have hf := pbr_f c_6 hf
  refine lv_iload_n hx hb dX12_sheet_20 rfl (lv_at hl 3 rfl) ?_
  refine lv_iload_n hx hb dX12_sheet_21 rfl (lv_at hl 2 rfl) ?_
  refine lv_sipush (v := (9999 : Int32)) hx hb dX12_sheet_22 (by decide) ?_
  obtain ⟨r_7, hc_8, hf⟩ := pcl_e hf
  refine m_callS2 (As := [.int x3, .int x2, .int (9999 : Int32)]) (rest := []) ⟨hx, hb, hml, hown, hts⟩ hX (ct_X12_in l D cA x3 x2 (9999 : Int32) r_7 hc_8) (va_cwS 3 hts gX12_sheet_X12_in rfl rfl rfl (by decide +kernel) ⟨Nat.le_of_ble_eq_true rfl, Nat.le_of_ble_eq_true rfl⟩) hP hD hS hA [] [0, 1, 2, 3, 4] 5 (by decide) rfl rfl (WS' := (w_X12_sheet a0 q_sheets q_marsh q_oldest q_youngest q_text q_depths q_tune q_far q_books q_told q_years q_months q_ring q_woods q_ends q_wood q_knowns q_known q_weight q_chance q_digs q_draft q_isKept cA s_trace s_typed s_earliest s_latest s_firstYear s_rings s_sheets s_marsh s_oldest s_youngest)) (WR := [(a0, .inr (12, [.long s_trace, .ref q_text, .int s_typed, .ref q_depths, .ref q_tune, .ref q_far, .ref q_books, .ref q_told, .int s_earliest, .int s_latest, .ref q_years, .ref q_months, .int s_firstYear, .int s_rings, .ref q_ring, .ref q_woods, .ref q_ends, .ref q_wood, .ref q_sheets, .ref q_marsh, .ref q_oldest, .ref q_youngest, .ref q_knowns, .ref q_known, .ref q_weight, .ref q_chance, .ref q_digs, .ref q_draft, .ref q_isKept])), (q_sheets, .inl (cA 1, 3, .inl s_sheets)), (q_marsh, .inl (cA 1, 36, .inl s_marsh)), (q_oldest, .inl (cA 1, 36, .inl s_oldest)), (q_youngest, .inl (cA 1, 36, .inl s_youngest))]) rfl rfl rfl rfl (by decide) (by decide) rfl hl.1 rfl (st' := [.int r_7]) rfl (Nat.le_of_ble_eq_true rfl) ⟨Nat.zero_le _, Nat.zero_le _⟩ dX12_sheet_25 (fun H locs hP hD hS => ?_)
  refine lv_if_ne (tgt := 33) hx hb dX12_sheet_28 (by decide) (fun c_9 => ?_) (fun c_9 => ?_)
  · have hf := pbr_f c_9 hf
    refine lv_aload_n hx hb dX12_sheet_33 rfl (lv_at hl 0 rfl) ?_
    refine va_get (D := D) (ci := 12) (v := .ref q_sheets) (C := RX12) (T := TX12) (N := 29) hx hb hts hn_X12_sheet_X12 hown hK hP 0 rfl rfl 18 (by decide) (hts _ hw_X12_sheet_f47) (fun _ h9 => h9) rfl dX12_sheet_34 ?_
    refine lv_iconst (v := (0 : Int32)) hx hb dX12_sheet_37 (by decide) ?_
    refine va_iald hx hb hK hP 1 1 rfl rfl (show pin (0 : Int32) 3 by decide +kernel) dX12_sheet_38 ?_
    refine lv_bipush (v := (12 : Int32)) hx hb dX12_sheet_39 (by decide) ?_
    refine lv_icmp_ne (tgt := 47) hx hb dX12_sheet_41 (by decide) (fun c_10 => ?_) (fun c_10 => ?_)
    · have hf := pbr_f c_10 hf
      refine lv_aload_n hx hb dX12_sheet_47 rfl (lv_at hl 0 rfl) ?_
      refine va_get (D := D) (ci := 12) (v := .ref q_sheets) (C := RX12) (T := TX12) (N := 29) hx hb hts hn_X12_sheet_X12 hown hK hP 0 rfl rfl 18 (by decide) (hts _ hw_X12_sheet_f47) (fun _ h9 => h9) rfl dX12_sheet_48 ?_
      refine lv_iconst (v := (0 : Int32)) hx hb dX12_sheet_51 (by decide) ?_
      refine va_iald hx hb hK hP 1 1 rfl rfl (show pin (0 : Int32) 3 by decide +kernel) dX12_sheet_52 ?_
      refine lv_topi (fun x4_11 ex4_11 => ?_)
      have hf := plt_e ex4_11 hf
      refine lv_istore (lv' := [(4, .int x4_11), (0, .ref a0), (1, .int x1), (2, .int x2), (3, .int x3)]) hx hb dX12_sheet_53 hl (by decide) rfl (fun ls hl => ?_)
      refine lv_aload_n hx hb dX12_sheet_55 rfl (lv_at hl 1 rfl) ?_
      refine va_get (D := D) (ci := 12) (v := .ref q_marsh) (C := RX12) (T := TX12) (N := 29) hx hb hts hn_X12_sheet_X12 hown hK hP 0 rfl rfl 19 (by decide) (hts _ hw_X12_sheet_f50) (fun _ h9 => h9) rfl dX12_sheet_56 ?_
      refine lv_iload hx hb dX12_sheet_59 (lv_at hl 0 rfl) ?_
      refine lv_iload_n hx hb dX12_sheet_61 rfl (lv_at hl 2 rfl) ?_
      obtain ⟨g_12, hf⟩ := pgd_e hf
      refine va_iast hx hb hK hP hD hS 2 1 rfl rfl g_12 dX12_sheet_62 (fun H locs hP hD hS => ?_)
      obtain ⟨f_13, ef_13⟩ : ∃ z : Nat → Int32, z = upd s_marsh x4_11.toNatClampNeg x1 := ⟨_, rfl⟩
      have hf := plt_e ef_13 hf
      have hP : va_P D vwCl (w_X12_sheet a0 q_sheets q_marsh q_oldest q_youngest q_text q_depths q_tune q_far q_books q_told q_years q_months q_ring q_woods q_ends q_wood q_knowns q_known q_weight q_chance q_digs q_draft q_isKept cA s_trace s_typed s_earliest s_latest s_firstYear s_rings s_sheets f_13 s_oldest s_youngest) H := by rw [ef_13]; exact hP
      have hD : va_D A (w_X12_sheet a0 q_sheets q_marsh q_oldest q_youngest q_text q_depths q_tune q_far q_books q_told q_years q_months q_ring q_woods q_ends q_wood q_knowns q_known q_weight q_chance q_digs q_draft q_isKept cA s_trace s_typed s_earliest s_latest s_firstYear s_rings s_sheets f_13 s_oldest s_youngest) := by rw [ef_13]; exact hD
      refine lv_aload_n hx hb dX12_sheet_63 rfl (lv_at hl 1 rfl) ?_
      refine va_get (D := D) (ci := 12) (v := .ref q_oldest) (C := RX12) (T := TX12) (N := 29) hx hb hts hn_X12_sheet_X12 hown hK hP 0 rfl rfl 20 (by decide) (hts _ hw_X12_sheet_f53) (fun _ h9 => h9) rfl dX12_sheet_64 ?_
      refine lv_iload hx hb dX12_sheet_67 (lv_at hl 0 rfl) ?_
      refine lv_iload_n hx hb dX12_sheet_69 rfl (lv_at hl 3 rfl) ?_
      refine va_iast hx hb hK hP hD hS 3 1 rfl rfl g_12 dX12_sheet_70 (fun H locs hP hD hS => ?_)
      obtain ⟨f_14, ef_14⟩ : ∃ z : Nat → Int32, z = upd s_oldest x4_11.toNatClampNeg x2 := ⟨_, rfl⟩
      have hf := plt_e ef_14 hf
      have hP : va_P D vwCl (w_X12_sheet a0 q_sheets q_marsh q_oldest q_youngest q_text q_depths q_tune q_far q_books q_told q_years q_months q_ring q_woods q_ends q_wood q_knowns q_known q_weight q_chance q_digs q_draft q_isKept cA s_trace s_typed s_earliest s_latest s_firstYear s_rings s_sheets f_13 f_14 s_youngest) H := by rw [ef_14]; exact hP
      have hD : va_D A (w_X12_sheet a0 q_sheets q_marsh q_oldest q_youngest q_text q_depths q_tune q_far q_books q_told q_years q_months q_ring q_woods q_ends q_wood q_knowns q_known q_weight q_chance q_digs q_draft q_isKept cA s_trace s_typed s_earliest s_latest s_firstYear s_rings s_sheets f_13 f_14 s_youngest) := by rw [ef_14]; exact hD
      refine lv_aload_n hx hb dX12_sheet_71 rfl (lv_at hl 1 rfl) ?_
      refine va_get (D := D) (ci := 12) (v := .ref q_youngest) (C := RX12) (T := TX12) (N := 29) hx hb hts hn_X12_sheet_X12 hown hK hP 0 rfl rfl 21 (by decide) (hts _ hw_X12_sheet_f56) (fun _ h9 => h9) rfl dX12_sheet_72 ?_
      refine lv_iload hx hb dX12_sheet_75 (lv_at hl 0 rfl) ?_
      refine lv_iload_n hx hb dX12_sheet_77 rfl (lv_at hl 4 rfl) ?_
      refine va_iast hx hb hK hP hD hS 4 1 rfl rfl g_12 dX12_sheet_78 (fun H locs hP hD hS => ?_)
      obtain ⟨f_15, ef_15⟩ : ∃ z : Nat → Int32, z = upd s_youngest x4_11.toNatClampNeg x3 := ⟨_, rfl⟩
      have hf := plt_e ef_15 hf
      have hP : va_P D vwCl (w_X12_sheet a0 q_sheets q_marsh q_oldest q_youngest q_text q_depths q_tune q_far q_books q_told q_years q_months q_ring q_woods q_ends q_wood q_knowns q_known q_weight q_chance q_digs q_draft q_isKept cA s_trace s_typed s_earliest s_latest s_firstYear s_rings s_sheets f_13 f_14 f_15) H := by rw [ef_15]; exact hP
      have hD : va_D A (w_X12_sheet a0 q_sheets q_marsh q_oldest q_youngest q_text q_depths q_tune q_far q_books q_told q_years q_months q_ring q_woods q_ends q_wood q_knowns q_known q_weight q_chance q_digs q_draft q_isKept cA s_trace s_typed s_earliest s_latest s_firstYear s_rings s_sheets f_13 f_14 f_15) := by rw [ef_15]; exact hD
      refine lv_aload_n hx hb dX12_sheet_79 rfl (lv_at hl 1 rfl) ?_
      refine va_get (D := D) (ci := 12) (v := .ref q_sheets) (C := RX12) (T := TX12) (N := 29) hx hb hts hn_X12_sheet_X12 hown hK hP 0 rfl rfl 18 (by decide) (hts _ hw_X12_sheet_f47) (fun _ h9 => h9) rfl dX12_sheet_80 ?_
      refine lv_iconst (v := (0 : Int32)) hx hb dX12_sheet_83 (by decide) ?_
      refine lv_dup2_11 hx hb dX12_sheet_84 rfl rfl ?_
      refine va_iald hx hb hK hP 1 1 rfl rfl (show pin (0 : Int32) 3 by decide +kernel) dX12_sheet_85 ?_
      refine lv_iconst (v := (1 : Int32)) hx hb dX12_sheet_86 (by decide) ?_
      refine lv_iadd hx hb dX12_sheet_87 ?_
      refine va_iast hx hb hK hP hD hS 1 1 rfl rfl (show pin (0 : Int32) 3 by decide +kernel) dX12_sheet_88 (fun H locs hP hD hS => ?_)
      obtain ⟨f_16, ef_16⟩ : ∃ z : Nat → Int32, z = upd s_sheets (0 : Int32).toNatClampNeg ((s_sheets (0 : Int32).toNatClampNeg) + (1 : Int32)) := ⟨_, rfl⟩
      have hf := plt_e ef_16 hf
      have hP : va_P D vwCl (w_X12_sheet a0 q_sheets q_marsh q_oldest q_youngest q_text q_depths q_tune q_far q_books q_told q_years q_months q_ring q_woods q_ends q_wood q_knowns q_known q_weight q_chance q_digs q_draft q_isKept cA s_trace s_typed s_earliest s_latest s_firstYear s_rings f_16 f_13 f_14 f_15) H := by rw [ef_16]; exact hP
      have hD : va_D A (w_X12_sheet a0 q_sheets q_marsh q_oldest q_youngest q_text q_depths q_tune q_far q_books q_told q_years q_months q_ring q_woods q_ends q_wood q_knowns q_known q_weight q_chance q_digs q_draft q_isKept cA s_trace s_typed s_earliest s_latest s_firstYear s_rings f_16 f_13 f_14 f_15) := by rw [ef_16]; exact hD
      refine lv_iload hx hb dX12_sheet_89 (lv_at hl 0 rfl) ?_
      obtain ⟨rfl, rfl, rfl, rfl, rfl⟩ := pe5 hf
      exact m_iret hx hb hr hlocks hP hS dX12_sheet_91
    have hf := pbr_t c_10 hf
    refine lv_bipush (v := (-3 : Int32)) hx hb dX12_sheet_44 (by decide) ?_
    obtain ⟨rfl, rfl, rfl, rfl, rfl⟩ := pe5 hf
    exact m_iret hx hb hr hlocks hP hS dX12_sheet_46
  have hf := pbr_t c_9 hf
  refine lv_iconst (v := (-1 : Int32)) hx hb dX12_sheet_31 (by decide) ?_
  obtain ⟨rfl, rfl, rfl, rfl, rfl⟩ := pe5 hf
  exact m_iret hx hb hr hlocks hP hS dX12_sheet_32

/-! ===== OrphanWaveModel.together(II)I ===== -/
abbrev rm_X12_together : Room := { frames := 1, cells := 0, slots := 0, locals := 22 }
abbrev w_X12_together (a0 : Nat) (q_sheets : Nat) (q_oldest : Nat) (q_youngest : Nat) (q_text : Nat) (q_depths : Nat) (q_tune : Nat) (q_far : Nat) (q_books : Nat) (q_told : Nat) (q_years : Nat) (q_months : Nat) (q_ring : Nat) (q_woods : Nat) (q_ends : Nat) (q_wood : Nat) (q_marsh : Nat) (q_knowns : Nat) (q_known : Nat) (q_weight : Nat) (q_chance : Nat) (q_digs : Nat) (q_draft : Nat) (q_isKept : Nat) (cA : Nat → ClassId) (s_trace : Int64) (s_typed : Int32) (s_earliest : Int32) (s_latest : Int32) (s_firstYear : Int32) (s_rings : Int32) (s_sheets : Nat → Int32) (s_oldest : Nat → Int32) (s_youngest : Nat → Int32) : va_W := [(a0, .inr (12, [.long s_trace, .ref q_text, .int s_typed, .ref q_depths, .ref q_tune, .ref q_far, .ref q_books, .ref q_told, .int s_earliest, .int s_latest, .ref q_years, .ref q_months, .int s_firstYear, .int s_rings, .ref q_ring, .ref q_woods, .ref q_ends, .ref q_wood, .ref q_sheets, .ref q_marsh, .ref q_oldest, .ref q_youngest, .ref q_knowns, .ref q_known, .ref q_weight, .ref q_chance, .ref q_digs, .ref q_draft, .ref q_isKept])), (q_sheets, .inl (cA 1, 3, .inl s_sheets)), (q_oldest, .inl (cA 1, 36, .inl s_oldest)), (q_youngest, .inl (cA 1, 36, .inl s_youngest))]
theorem hn_X12_together_X12 : ∀ w ∈ u_ws RX12 TX12 29, w ∈ wsX12_together := by decide +kernel
theorem hw_X12_together_f47 : Cond.fieldLink RX12 47 "OrphanWaveModel" "sheets" "[I" ∈ wsX12_together := by decide +kernel
theorem hw_X12_together_f53 : Cond.fieldLink RX12 53 "OrphanWaveModel" "oldest" "[I" ∈ wsX12_together := by decide +kernel
theorem hw_X12_together_f56 : Cond.fieldLink RX12 56 "OrphanWaveModel" "youngest" "[I" ∈ wsX12_together := by decide +kernel

def f_X12_together_81 (r13 : (Int32) → (Int32) → (Int32) → (Int32) → Option ((Int32))) (s_sheets : Nat → Int32) (s_oldest : Nat → Int32) (s_youngest : Nat → Int32) (x1 : Int32) (x2 : Int32) (x3 : Int32) (x5 : Int32) (x6 : Int32) (z0 : Int32) : Option ((Int32)) :=
  plt (x5 + (1 : Int32) : Int32) (fun x5_1 => (
  plt (x6 + (1 : Int32) : Int32) (fun x6_2 => (
  r13 x3 z0 x5_1 x6_2))))

set_option maxRecDepth 100000 in
set_option maxHeartbeats 4000000 in
theorem k_X12_together_81 {p : Program} {l : Launch} {e : Env} {s : State} {m : MethodId} {args : Array Value} {below : List Frame} {meth : Method} {c : Code} {A : Nat → Prop} {D : va_G} {cA : Nat → ClassId} (C0 : MX p s m args meth c cX12_together 7 wsX12_together RX12 (some .int) D cA) (hA : ∀ q, s.heap.size ≤ q → A q) {a0 : Nat} {q_sheets : Nat} {q_oldest : Nat} {q_youngest : Nat} {q_text : Nat} {q_depths : Nat} {q_tune : Nat} {q_far : Nat} {q_books : Nat} {q_told : Nat} {q_years : Nat} {q_months : Nat} {q_ring : Nat} {q_woods : Nat} {q_ends : Nat} {q_wood : Nat} {q_marsh : Nat} {q_knowns : Nat} {q_known : Nat} {q_weight : Nat} {q_chance : Nat} {q_digs : Nat} {q_draft : Nat} {q_isKept : Nat} {s_trace : Int64} {s_typed : Int32} {s_earliest : Int32} {s_latest : Int32} {s_firstYear : Int32} {s_rings : Int32} {s_sheets : Nat → Int32} {s_oldest : Nat → Int32} {s_youngest : Nat → Int32} {x1 : Int32} {x2 : Int32} {o_r : Int32} {r13 : (Int32) → (Int32) → (Int32) → (Int32) → Option ((Int32))} (hr13 : ∀ (x3 : Int32) (x4 : Int32) (x5 : Int32) (x6 : Int32), r13 x3 x4 x5 x6 = some o_r → ∀ (H : Heap) (locs : List Loc), va_P D vwCl (w_X12_together a0 q_sheets q_oldest q_youngest q_text q_depths q_tune q_far q_books q_told q_years q_months q_ring q_woods q_ends q_wood q_marsh q_knowns q_known q_weight q_chance q_digs q_draft q_isKept cA s_trace s_typed s_earliest s_latest s_firstYear s_rings s_sheets s_oldest s_youngest) H → va_D A (w_X12_together a0 q_sheets q_oldest q_youngest q_text q_depths q_tune q_far q_books q_told q_years q_months q_ring q_woods q_ends q_wood q_marsh q_knowns q_known q_weight q_chance q_digs q_draft q_isKept cA s_trace s_typed s_earliest s_latest s_firstYear s_rings s_sheets s_oldest s_youngest) → va_S A s.heap H locs → ∀ ls : Array Slot, lv_has ls 7 [(0, .ref a0), (1, .int x1), (2, .int x2), (3, .int x3), (4, .int x4), (5, .int x5), (6, .int x6)] → W p l e rm_X12_together s m args below meth c H locs 0 0 (MQ below (CQ D (some (.int o_r)) (w_X12_together a0 q_sheets q_oldest q_youngest q_text q_depths q_tune q_far q_books q_told q_years q_months q_ring q_woods q_ends q_wood q_marsh q_knowns q_known q_weight q_chance q_digs q_draft q_isKept cA s_trace s_typed s_earliest s_latest s_firstYear s_rings s_sheets s_oldest s_youngest) A) args s 0 0 A) (F0 m 13 ls [])) : ∀ (x3 : Int32) (x5 : Int32) (x6 : Int32) (z0 : Int32), f_X12_together_81 r13 s_sheets s_oldest s_youngest x1 x2 x3 x5 x6 z0 = some o_r → ∀ (H : Heap) (locs : List Loc), va_P D vwCl (w_X12_together a0 q_sheets q_oldest q_youngest q_text q_depths q_tune q_far q_books q_told q_years q_months q_ring q_woods q_ends q_wood q_marsh q_knowns q_known q_weight q_chance q_digs q_draft q_isKept cA s_trace s_typed s_earliest s_latest s_firstYear s_rings s_sheets s_oldest s_youngest) H → va_D A (w_X12_together a0 q_sheets q_oldest q_youngest q_text q_depths q_tune q_far q_books q_told q_years q_months q_ring q_woods q_ends q_wood q_marsh q_knowns q_known q_weight q_chance q_digs q_draft q_isKept cA s_trace s_typed s_earliest s_latest s_firstYear s_rings s_sheets s_oldest s_youngest) → va_S A s.heap H locs → ∀ ls : Array Slot, lv_has ls 7 [(0, .ref a0), (1, .int x1), (2, .int x2), (3, .int x3), (5, .int x5), (6, .int x6)] → W p l e rm_X12_together s m args below meth c H locs 0 0 (MQ below (CQ D (some (.int o_r)) (w_X12_together a0 q_sheets q_oldest q_youngest q_text q_depths q_tune q_far q_books q_told q_years q_months q_ring q_woods q_ends q_wood q_marsh q_knowns q_known q_weight q_chance q_digs q_draft q_isKept cA s_trace s_typed s_earliest s_latest s_firstYear s_rings s_sheets s_oldest s_youngest) A) args s 0 0 A) (F0 m 81 ls [.int z0]) := by
  obtain ⟨hx, hb, hml, hown, hts, hr, hlocks, hX⟩ := C0
  have hK := hX.1
  have hN := hX.2
  intro x3 x5 x6 z0 hf H locs hP hD hS ls hl
  unfold f_X12_together_81 at hf
  refine lv_istore (lv' := [(4, .int z0), (0, .ref a0), (1, .int x1), (2, .int x2), (3, .int x3), (5, .int x5), (6, .int x6)]) hx hb dX12_together_81 hl (by decide) rfl (fun ls hl => ?_)
  obtain ⟨x5_1, ex5_1⟩ : ∃ z : Int32, z = x5 + (1 : Int32) := ⟨_, rfl⟩
  have hf := plt_e ex5_1 hf
  refine lv_iinc (v := x5_1) (lv' := [(5, .int x5_1), (4, .int z0), (0, .ref a0), (1, .int x1), (2, .int x2), (3, .int x3), (6, .int x6)]) hx hb dX12_together_83 hl (k := 5) rfl (by rw [ex5_1]; rfl) (by decide) rfl (fun ls hl => ?_)
  obtain ⟨x6_2, ex6_2⟩ : ∃ z : Int32, z = x6 + (1 : Int32) := ⟨_, rfl⟩
  have hf := plt_e ex6_2 hf
  refine lv_iinc (v := x6_2) (lv' := [(6, .int x6_2), (5, .int x5_1), (4, .int z0), (0, .ref a0), (1, .int x1), (2, .int x2), (3, .int x3)]) hx hb dX12_together_86 hl (k := 6) rfl (by rw [ex6_2]; rfl) (by decide) rfl (fun ls hl => ?_)
  refine lv_goto (tgt := 13) hx hb dX12_together_89 (by decide) ?_
  exact hr13 x3 z0 x5_1 x6_2 hf _ _ hP hD hS ls (lv_sub hl [3, 4, 5, 6, 2, 1, 0] rfl)

def f_X12_together_56 (r13 : (Int32) → (Int32) → (Int32) → (Int32) → Option ((Int32))) (s_sheets : Nat → Int32) (s_oldest : Nat → Int32) (s_youngest : Nat → Int32) (x1 : Int32) (x2 : Int32) (x4 : Int32) (x5 : Int32) (x6 : Int32) (z0 : Int32) : Option ((Int32)) :=
  pgd (pin x6 36) (
  pbr (x4 ≤ (s_youngest x6.toNatClampNeg))
    (f_X12_together_81 r13 s_sheets s_oldest s_youngest x1 x2 z0 x5 x6 x4)
    (f_X12_together_81 r13 s_sheets s_oldest s_youngest x1 x2 z0 x5 x6 (s_youngest x6.toNatClampNeg)))

set_option maxRecDepth 100000 in
set_option maxHeartbeats 4000000 in
theorem k_X12_together_56 {p : Program} {l : Launch} {e : Env} {s : State} {m : MethodId} {args : Array Value} {below : List Frame} {meth : Method} {c : Code} {A : Nat → Prop} {D : va_G} {cA : Nat → ClassId} (C0 : MX p s m args meth c cX12_together 7 wsX12_together RX12 (some .int) D cA) (hA : ∀ q, s.heap.size ≤ q → A q) {a0 : Nat} {q_sheets : Nat} {q_oldest : Nat} {q_youngest : Nat} {q_text : Nat} {q_depths : Nat} {q_tune : Nat} {q_far : Nat} {q_books : Nat} {q_told : Nat} {q_years : Nat} {q_months : Nat} {q_ring : Nat} {q_woods : Nat} {q_ends : Nat} {q_wood : Nat} {q_marsh : Nat} {q_knowns : Nat} {q_known : Nat} {q_weight : Nat} {q_chance : Nat} {q_digs : Nat} {q_draft : Nat} {q_isKept : Nat} {s_trace : Int64} {s_typed : Int32} {s_earliest : Int32} {s_latest : Int32} {s_firstYear : Int32} {s_rings : Int32} {s_sheets : Nat → Int32} {s_oldest : Nat → Int32} {s_youngest : Nat → Int32} {x1 : Int32} {x2 : Int32} {o_r : Int32} {r13 : (Int32) → (Int32) → (Int32) → (Int32) → Option ((Int32))} (hr13 : ∀ (x3 : Int32) (x4 : Int32) (x5 : Int32) (x6 : Int32), r13 x3 x4 x5 x6 = some o_r → ∀ (H : Heap) (locs : List Loc), va_P D vwCl (w_X12_together a0 q_sheets q_oldest q_youngest q_text q_depths q_tune q_far q_books q_told q_years q_months q_ring q_woods q_ends q_wood q_marsh q_knowns q_known q_weight q_chance q_digs q_draft q_isKept cA s_trace s_typed s_earliest s_latest s_firstYear s_rings s_sheets s_oldest s_youngest) H → va_D A (w_X12_together a0 q_sheets q_oldest q_youngest q_text q_depths q_tune q_far q_books q_told q_years q_months q_ring q_woods q_ends q_wood q_marsh q_knowns q_known q_weight q_chance q_digs q_draft q_isKept cA s_trace s_typed s_earliest s_latest s_firstYear s_rings s_sheets s_oldest s_youngest) → va_S A s.heap H locs → ∀ ls : Array Slot, lv_has ls 7 [(0, .ref a0), (1, .int x1), (2, .int x2), (3, .int x3), (4, .int x4), (5, .int x5), (6, .int x6)] → W p l e rm_X12_together s m args below meth c H locs 0 0 (MQ below (CQ D (some (.int o_r)) (w_X12_together a0 q_sheets q_oldest q_youngest q_text q_depths q_tune q_far q_books q_told q_years q_months q_ring q_woods q_ends q_wood q_marsh q_knowns q_known q_weight q_chance q_digs q_draft q_isKept cA s_trace s_typed s_earliest s_latest s_firstYear s_rings s_sheets s_oldest s_youngest) A) args s 0 0 A) (F0 m 13 ls [])) : ∀ (x4 : Int32) (x5 : Int32) (x6 : Int32) (z0 : Int32), f_X12_together_56 r13 s_sheets s_oldest s_youngest x1 x2 x4 x5 x6 z0 = some o_r → ∀ (H : Heap) (locs : List Loc), va_P D vwCl (w_X12_together a0 q_sheets q_oldest q_youngest q_text q_depths q_tune q_far q_books q_told q_years q_months q_ring q_woods q_ends q_wood q_marsh q_knowns q_known q_weight q_chance q_digs q_draft q_isKept cA s_trace s_typed s_earliest s_latest s_firstYear s_rings s_sheets s_oldest s_youngest) H → va_D A (w_X12_together a0 q_sheets q_oldest q_youngest q_text q_depths q_tune q_far q_books q_told q_years q_months q_ring q_woods q_ends q_wood q_marsh q_knowns q_known q_weight q_chance q_digs q_draft q_isKept cA s_trace s_typed s_earliest s_latest s_firstYear s_rings s_sheets s_oldest s_youngest) → va_S A s.heap H locs → ∀ ls : Array Slot, lv_has ls 7 [(0, .ref a0), (1, .int x1), (2, .int x2), (4, .int x4), (5, .int x5), (6, .int x6)] → W p l e rm_X12_together s m args below meth c H locs 0 0 (MQ below (CQ D (some (.int o_r)) (w_X12_together a0 q_sheets q_oldest q_youngest q_text q_depths q_tune q_far q_books q_told q_years q_months q_ring q_woods q_ends q_wood q_marsh q_knowns q_known q_weight q_chance q_digs q_draft q_isKept cA s_trace s_typed s_earliest s_latest s_firstYear s_rings s_sheets s_oldest s_youngest) A) args s 0 0 A) (F0 m 56 ls [.int z0]) := by
  obtain ⟨hx, hb, hml, hown, hts, hr, hlocks, hX⟩ := C0
  have hK := hX.1
  have hN := hX.2
  intro x4 x5 x6 z0 hf H locs hP hD hS ls hl
  unfold f_X12_together_56 at hf
  refine lv_istore_n (lv' := [(3, .int z0), (0, .ref a0), (1, .int x1), (2, .int x2), (4, .int x4), (5, .int x5), (6, .int x6)]) hx hb dX12_together_56 rfl hl (by decide) rfl (fun ls hl => ?_)
  refine lv_aload_n hx hb dX12_together_57 rfl (lv_at hl 1 rfl) ?_
  refine va_get (D := D) (ci := 12) (v := .ref q_youngest) (C := RX12) (T := TX12) (N := 29) hx hb hts hn_X12_together_X12 hown hK hP 0 rfl rfl 21 (by decide) (hts _ hw_X12_together_f56) (fun _ h9 => h9) rfl dX12_together_58 ?_
  refine lv_iload hx hb dX12_together_61 (lv_at hl 6 rfl) ?_
  obtain ⟨g_1, hf⟩ := pgd_e hf
  refine va_iald hx hb hK hP 3 1 rfl rfl g_1 dX12_together_63 ?_
  refine lv_iload hx hb dX12_together_64 (lv_at hl 4 rfl) ?_
  refine lv_icmp_ge (tgt := 79) hx hb dX12_together_66 (by decide) (fun c_2 => ?_) (fun c_2 => ?_)
  · have hf := pbr_t c_2 hf
    refine lv_iload hx hb dX12_together_79 (lv_at hl 4 rfl) ?_
    exact k_X12_together_81 ⟨hx, hb, hml, hown, hts, hr, hlocks, hX⟩ hA hr13 z0 x5 x6 x4 hf _ _ hP hD hS ls (lv_sub hl [1, 2, 3, 0, 5, 6] rfl)
  have hf := pbr_f c_2 hf
  refine lv_aload_n hx hb dX12_together_69 rfl (lv_at hl 1 rfl) ?_
  refine va_get (D := D) (ci := 12) (v := .ref q_youngest) (C := RX12) (T := TX12) (N := 29) hx hb hts hn_X12_together_X12 hown hK hP 0 rfl rfl 21 (by decide) (hts _ hw_X12_together_f56) (fun _ h9 => h9) rfl dX12_together_70 ?_
  refine lv_iload hx hb dX12_together_73 (lv_at hl 6 rfl) ?_
  refine va_iald hx hb hK hP 3 1 rfl rfl g_1 dX12_together_75 ?_
  refine lv_goto (tgt := 81) hx hb dX12_together_76 (by decide) ?_
  exact k_X12_together_81 ⟨hx, hb, hml, hown, hts, hr, hlocks, hX⟩ hA hr13 z0 x5 x6 (s_youngest x6.toNatClampNeg) hf _ _ hP hD hS ls (lv_sub hl [1, 2, 3, 0, 5, 6] rfl)

def f_X12_together_13 (s_sheets : Nat → Int32) (s_oldest : Nat → Int32) (s_youngest : Nat → Int32) (x1 : Int32) (x2 : Int32) : Nat → (Int32) → (Int32) → (Int32) → (Int32) → Option ((Int32))
  | 0, _, _, _, _ => none
  | k + 1, x3, x4, x5, x6 =>
    pbr ((s_sheets (0 : Int32).toNatClampNeg) ≤ x6)
      (pbr (x5 = 0)
        (some ((-1 : Int32)))
        (pcl (f_X12_in x2 (0 : Int32) (1 : Int32)) (fun r_3 => (
        pbr (r_3 = 0)
          (some ((-1 : Int32)))
          (pbr (x3 ≤ x4)
            (pbr (x2 = 0)
              (some (x3))
              (some (x4)))
            (some ((-9 : Int32))))))))
      (pbr (((x1 >>> (x6 &&& 31)) &&& (1 : Int32)) = (1 : Int32))
        (pgd (pin x6 36) (
        pbr ((s_oldest x6.toNatClampNeg) ≤ x3)
          (f_X12_together_56 (f_X12_together_13 s_sheets s_oldest s_youngest x1 x2 k) s_sheets s_oldest s_youngest x1 x2 x4 x5 x6 x3)
          (f_X12_together_56 (f_X12_together_13 s_sheets s_oldest s_youngest x1 x2 k) s_sheets s_oldest s_youngest x1 x2 x4 x5 x6 (s_oldest x6.toNatClampNeg))))
        (plt (x6 + (1 : Int32) : Int32) (fun x6_9 => (
        (f_X12_together_13 s_sheets s_oldest s_youngest x1 x2 k) x3 x4 x5 x6_9))))

set_option maxRecDepth 100000 in
set_option maxHeartbeats 4000000 in
theorem k_X12_together_13 {p : Program} {l : Launch} {e : Env} {s : State} {m : MethodId} {args : Array Value} {below : List Frame} {meth : Method} {c : Code} {A : Nat → Prop} {D : va_G} {cA : Nat → ClassId} (C0 : MX p s m args meth c cX12_together 7 wsX12_together RX12 (some .int) D cA) (hA : ∀ q, s.heap.size ≤ q → A q) {a0 : Nat} {q_sheets : Nat} {q_oldest : Nat} {q_youngest : Nat} {q_text : Nat} {q_depths : Nat} {q_tune : Nat} {q_far : Nat} {q_books : Nat} {q_told : Nat} {q_years : Nat} {q_months : Nat} {q_ring : Nat} {q_woods : Nat} {q_ends : Nat} {q_wood : Nat} {q_marsh : Nat} {q_knowns : Nat} {q_known : Nat} {q_weight : Nat} {q_chance : Nat} {q_digs : Nat} {q_draft : Nat} {q_isKept : Nat} {s_trace : Int64} {s_typed : Int32} {s_earliest : Int32} {s_latest : Int32} {s_firstYear : Int32} {s_rings : Int32} {s_sheets : Nat → Int32} {s_oldest : Nat → Int32} {s_youngest : Nat → Int32} {x1 : Int32} {x2 : Int32} {o_r : Int32} : ∀ (k : Nat) (x3 : Int32) (x4 : Int32) (x5 : Int32) (x6 : Int32), f_X12_together_13 s_sheets s_oldest s_youngest x1 x2 k x3 x4 x5 x6 = some o_r → ∀ (H : Heap) (locs : List Loc), va_P D vwCl (w_X12_together a0 q_sheets q_oldest q_youngest q_text q_depths q_tune q_far q_books q_told q_years q_months q_ring q_woods q_ends q_wood q_marsh q_knowns q_known q_weight q_chance q_digs q_draft q_isKept cA s_trace s_typed s_earliest s_latest s_firstYear s_rings s_sheets s_oldest s_youngest) H → va_D A (w_X12_together a0 q_sheets q_oldest q_youngest q_text q_depths q_tune q_far q_books q_told q_years q_months q_ring q_woods q_ends q_wood q_marsh q_knowns q_known q_weight q_chance q_digs q_draft q_isKept cA s_trace s_typed s_earliest s_latest s_firstYear s_rings s_sheets s_oldest s_youngest) → va_S A s.heap H locs → ∀ ls : Array Slot, lv_has ls 7 [(0, .ref a0), (1, .int x1), (2, .int x2), (3, .int x3), (4, .int x4), (5, .int x5), (6, .int x6)] → W p l e rm_X12_together s m args below meth c H locs 0 0 (MQ below (CQ D (some (.int o_r)) (w_X12_together a0 q_sheets q_oldest q_youngest q_text q_depths q_tune q_far q_books q_told q_years q_months q_ring q_woods q_ends q_wood q_marsh q_knowns q_known q_weight q_chance q_digs q_draft q_isKept cA s_trace s_typed s_earliest s_latest s_firstYear s_rings s_sheets s_oldest s_youngest) A) args s 0 0 A) (F0 m 13 ls []) := by
  obtain ⟨hx, hb, hml, hown, hts, hr, hlocks, hX⟩ := C0
  have hK := hX.1
  have hN := hX.2
  intro k
  induction k with
  | zero =>
    intro x3 x4 x5 x6 hf
    cases hf
  | succ k ih =>
    intro x3 x4 x5 x6 hf H locs hP hD hS ls hl
    rw [f_X12_together_13] at hf
    refine lv_iload hx hb dX12_together_13 (lv_at hl 6 rfl) ?_
    refine lv_aload_n hx hb dX12_together_15 rfl (lv_at hl 0 rfl) ?_
    refine va_get (D := D) (ci := 12) (v := .ref q_sheets) (C := RX12) (T := TX12) (N := 29) hx hb hts hn_X12_together_X12 hown hK hP 0 rfl rfl 18 (by decide) (hts _ hw_X12_together_f47) (fun _ h9 => h9) rfl dX12_together_16 ?_
    refine lv_iconst (v := (0 : Int32)) hx hb dX12_together_19 (by decide) ?_
    refine va_iald hx hb hK hP 1 1 rfl rfl (show pin (0 : Int32) 3 by decide +kernel) dX12_together_20 ?_
    refine lv_icmp_ge (tgt := 92) hx hb dX12_together_21 (by decide) (fun c_1 => ?_) (fun c_1 => ?_)
    · have hf := pbr_t c_1 hf
      refine lv_iload hx hb dX12_together_92 (lv_at hl 5 rfl) ?_
      refine lv_if_eq (tgt := 106) hx hb dX12_together_94 (by decide) (fun c_2 => ?_) (fun c_2 => ?_)
      · have hf := pbr_t c_2 hf
        refine lv_iconst (v := (-1 : Int32)) hx hb dX12_together_106 (by decide) ?_
        obtain rfl := pe1 hf
        exact m_iret hx hb hr hlocks hP hS dX12_together_107
      have hf := pbr_f c_2 hf
      refine lv_iload_n hx hb dX12_together_97 rfl (lv_at hl 2 rfl) ?_
      refine lv_iconst (v := (0 : Int32)) hx hb dX12_together_98 (by decide) ?_
      refine lv_iconst (v := (1 : Int32)) hx hb dX12_together_99 (by decide) ?_
      obtain ⟨r_3, hc_4, hf⟩ := pcl_e hf
      refine m_callS2 (As := [.int x2, .int (0 : Int32), .int (1 : Int32)]) (rest := []) ⟨hx, hb, hml, hown, hts⟩ hX (ct_X12_in l D cA x2 (0 : Int32) (1 : Int32) r_3 hc_4) (va_cwS 3 hts gX12_together_X12_in rfl rfl rfl (by decide +kernel) ⟨Nat.le_of_ble_eq_true rfl, Nat.le_of_ble_eq_true rfl⟩) hP hD hS hA [] [0, 1, 2, 3] 4 (by decide) rfl rfl (WS' := (w_X12_together a0 q_sheets q_oldest q_youngest q_text q_depths q_tune q_far q_books q_told q_years q_months q_ring q_woods q_ends q_wood q_marsh q_knowns q_known q_weight q_chance q_digs q_draft q_isKept cA s_trace s_typed s_earliest s_latest s_firstYear s_rings s_sheets s_oldest s_youngest)) (WR := [(a0, .inr (12, [.long s_trace, .ref q_text, .int s_typed, .ref q_depths, .ref q_tune, .ref q_far, .ref q_books, .ref q_told, .int s_earliest, .int s_latest, .ref q_years, .ref q_months, .int s_firstYear, .int s_rings, .ref q_ring, .ref q_woods, .ref q_ends, .ref q_wood, .ref q_sheets, .ref q_marsh, .ref q_oldest, .ref q_youngest, .ref q_knowns, .ref q_known, .ref q_weight, .ref q_chance, .ref q_digs, .ref q_draft, .ref q_isKept])), (q_sheets, .inl (cA 1, 3, .inl s_sheets)), (q_oldest, .inl (cA 1, 36, .inl s_oldest)), (q_youngest, .inl (cA 1, 36, .inl s_youngest))]) rfl rfl rfl rfl (by decide) (by decide) rfl hl.1 rfl (st' := [.int r_3]) rfl (Nat.le_of_ble_eq_true rfl) ⟨Nat.zero_le _, Nat.zero_le _⟩ dX12_together_100 (fun H locs hP hD hS => ?_)
      refine lv_if_ne (tgt := 108) hx hb dX12_together_103 (by decide) (fun c_5 => ?_) (fun c_5 => ?_)
      · have hf := pbr_f c_5 hf
        refine lv_iload hx hb dX12_together_108 (lv_at hl 4 rfl) ?_
        refine lv_iload_n hx hb dX12_together_110 rfl (lv_at hl 3 rfl) ?_
        refine lv_icmp_ge (tgt := 119) hx hb dX12_together_111 (by decide) (fun c_6 => ?_) (fun c_6 => ?_)
        · have hf := pbr_t c_6 hf
          refine lv_iload_n hx hb dX12_together_119 rfl (lv_at hl 2 rfl) ?_
          refine lv_if_ne (tgt := 127) hx hb dX12_together_120 (by decide) (fun c_7 => ?_) (fun c_7 => ?_)
          · have hf := pbr_f c_7 hf
            refine lv_iload hx hb dX12_together_127 (lv_at hl 4 rfl) ?_
            obtain rfl := pe1 hf
            exact m_iret hx hb hr hlocks hP hS dX12_together_129
          have hf := pbr_t c_7 hf
          refine lv_iload_n hx hb dX12_together_123 rfl (lv_at hl 3 rfl) ?_
          refine lv_goto (tgt := 129) hx hb dX12_together_124 (by decide) ?_
          obtain rfl := pe1 hf
          exact m_iret hx hb hr hlocks hP hS dX12_together_129
        have hf := pbr_f c_6 hf
        refine lv_bipush (v := (-9 : Int32)) hx hb dX12_together_114 (by decide) ?_
        refine lv_goto (tgt := 129) hx hb dX12_together_116 (by decide) ?_
        obtain rfl := pe1 hf
        exact m_iret hx hb hr hlocks hP hS dX12_together_129
      have hf := pbr_t c_5 hf
      refine lv_iconst (v := (-1 : Int32)) hx hb dX12_together_106 (by decide) ?_
      obtain rfl := pe1 hf
      exact m_iret hx hb hr hlocks hP hS dX12_together_107
    have hf := pbr_f c_1 hf
    refine lv_iload_n hx hb dX12_together_24 rfl (lv_at hl 1 rfl) ?_
    refine lv_iload hx hb dX12_together_25 (lv_at hl 6 rfl) ?_
    refine lv_ishr hx hb dX12_together_27 ?_
    refine lv_iconst (v := (1 : Int32)) hx hb dX12_together_28 (by decide) ?_
    refine lv_iand hx hb dX12_together_29 ?_
    refine lv_iconst (v := (1 : Int32)) hx hb dX12_together_30 (by decide) ?_
    refine lv_icmp_ne (tgt := 86) hx hb dX12_together_31 (by decide) (fun c_8 => ?_) (fun c_8 => ?_)
    · have hf := pbr_f c_8 hf
      obtain ⟨x6_9, ex6_9⟩ : ∃ z : Int32, z = x6 + (1 : Int32) := ⟨_, rfl⟩
      have hf := plt_e ex6_9 hf
      refine lv_iinc (v := x6_9) (lv' := [(6, .int x6_9), (0, .ref a0), (1, .int x1), (2, .int x2), (3, .int x3), (4, .int x4), (5, .int x5)]) hx hb dX12_together_86 hl (k := 6) rfl (by rw [ex6_9]; rfl) (by decide) rfl (fun ls hl => ?_)
      refine lv_goto (tgt := 13) hx hb dX12_together_89 (by decide) ?_
      exact ih x3 x4 x5 x6_9 hf _ _ hP hD hS ls (lv_sub hl [1, 2, 3, 4, 5, 6, 0] rfl)
    have hf := pbr_t c_8 hf
    refine lv_aload_n hx hb dX12_together_34 rfl (lv_at hl 0 rfl) ?_
    refine va_get (D := D) (ci := 12) (v := .ref q_oldest) (C := RX12) (T := TX12) (N := 29) hx hb hts hn_X12_together_X12 hown hK hP 0 rfl rfl 20 (by decide) (hts _ hw_X12_together_f53) (fun _ h9 => h9) rfl dX12_together_35 ?_
    refine lv_iload hx hb dX12_together_38 (lv_at hl 6 rfl) ?_
    obtain ⟨g_10, hf⟩ := pgd_e hf
    refine va_iald hx hb hK hP 2 1 rfl rfl g_10 dX12_together_40 ?_
    refine lv_iload_n hx hb dX12_together_41 rfl (lv_at hl 3 rfl) ?_
    refine lv_icmp_le (tgt := 55) hx hb dX12_together_42 (by decide) (fun c_11 => ?_) (fun c_11 => ?_)
    · have hf := pbr_t c_11 hf
      refine lv_iload_n hx hb dX12_together_55 rfl (lv_at hl 3 rfl) ?_
      exact k_X12_together_56 ⟨hx, hb, hml, hown, hts, hr, hlocks, hX⟩ hA ih x4 x5 x6 x3 hf _ _ hP hD hS ls (lv_sub hl [0, 1, 2, 4, 5, 6] rfl)
    have hf := pbr_f c_11 hf
    refine lv_aload_n hx hb dX12_together_45 rfl (lv_at hl 0 rfl) ?_
    refine va_get (D := D) (ci := 12) (v := .ref q_oldest) (C := RX12) (T := TX12) (N := 29) hx hb hts hn_X12_together_X12 hown hK hP 0 rfl rfl 20 (by decide) (hts _ hw_X12_together_f53) (fun _ h9 => h9) rfl dX12_together_46 ?_
    refine lv_iload hx hb dX12_together_49 (lv_at hl 6 rfl) ?_
    refine va_iald hx hb hK hP 2 1 rfl rfl g_10 dX12_together_51 ?_
    refine lv_goto (tgt := 56) hx hb dX12_together_52 (by decide) ?_
    exact k_X12_together_56 ⟨hx, hb, hml, hown, hts, hr, hlocks, hX⟩ hA ih x4 x5 x6 (s_oldest x6.toNatClampNeg) hf _ _ hP hD hS ls (lv_sub hl [0, 1, 2, 4, 5, 6] rfl)

def f_X12_together (x1 : Int32) (x2 : Int32) (s_sheets : Nat → Int32) (s_oldest : Nat → Int32) (s_youngest : Nat → Int32) : Option ((Int32)) :=
  f_X12_together_13 s_sheets s_oldest s_youngest x1 x2 FU (0 : Int32) (9999 : Int32) (0 : Int32) (0 : Int32)

set_option maxRecDepth 100000 in
set_option maxHeartbeats 4000000 in
theorem ct_X12_together (l : Launch) (D : va_G) (cA : Nat → ClassId) (x1 : Int32) (x2 : Int32) (a0 : Nat) (q_sheets : Nat) (q_oldest : Nat) (q_youngest : Nat) (q_text : Nat) (q_depths : Nat) (q_tune : Nat) (q_far : Nat) (q_books : Nat) (q_told : Nat) (q_years : Nat) (q_months : Nat) (q_ring : Nat) (q_woods : Nat) (q_ends : Nat) (q_wood : Nat) (q_marsh : Nat) (q_knowns : Nat) (q_known : Nat) (q_weight : Nat) (q_chance : Nat) (q_digs : Nat) (q_draft : Nat) (q_isKept : Nat) (s_trace : Int64) (s_typed : Int32) (s_earliest : Int32) (s_latest : Int32) (s_firstYear : Int32) (s_rings : Int32) (s_sheets : Nat → Int32) (s_oldest : Nat → Int32) (s_youngest : Nat → Int32) (o_r : Int32) (hf : f_X12_together x1 x2 s_sheets s_oldest s_youngest = some o_r) : CT l yX12_together wsX12_together rm_X12_together D cA [.ref a0, .int x1, .int x2] (w_X12_together a0 q_sheets q_oldest q_youngest q_text q_depths q_tune q_far q_books q_told q_years q_months q_ring q_woods q_ends q_wood q_marsh q_knowns q_known q_weight q_chance q_digs q_draft q_isKept cA s_trace s_typed s_earliest s_latest s_firstYear s_rings s_sheets s_oldest s_youngest) (w_X12_together a0 q_sheets q_oldest q_youngest q_text q_depths q_tune q_far q_books q_told q_years q_months q_ring q_woods q_ends q_wood q_marsh q_knowns q_known q_weight q_chance q_digs q_draft q_isKept cA s_trace s_typed s_earliest s_latest s_firstYear s_rings s_sheets s_oldest s_youngest) (some (.int o_r)) := by
  refine CT.ofW (cc := cX12_together) (maxL := 7) (ret := (some .int)) (by decide +kernel) rfl (Nat.le_of_ble_eq_true rfl) ?_
  intro p e s m below meth c A C0 hA hP hD ls hl
  have C0 : MX p s m [.ref a0, .int x1, .int x2].toArray meth c cX12_together 7 wsX12_together RX12 (some .int) D cA := C0
  have hl : lv_has ls 7 [(0, .ref a0), (1, .int x1), (2, .int x2)] := hl
  obtain ⟨hx, hb, hml, hown, hts, hr, hlocks, hX⟩ := id C0
  have hK := hX.1
  have hN := hX.2
  have hS : va_S A s.heap s.heap [] := va_S.rf
  unfold f_X12_together at hf
  refine lv_iconst (v := (0 : Int32)) hx hb dX12_together_0 (by decide) ?_
  refine lv_istore_n (lv' := [(3, .int (0 : Int32)), (0, .ref a0), (1, .int x1), (2, .int x2)]) hx hb dX12_together_1 rfl hl (by decide) rfl (fun ls hl => ?_)
  refine lv_sipush (v := (9999 : Int32)) hx hb dX12_together_2 (by decide) ?_
  refine lv_istore (lv' := [(4, .int (9999 : Int32)), (3, .int (0 : Int32)), (0, .ref a0), (1, .int x1), (2, .int x2)]) hx hb dX12_together_5 hl (by decide) rfl (fun ls hl => ?_)
  refine lv_iconst (v := (0 : Int32)) hx hb dX12_together_7 (by decide) ?_
  refine lv_istore (lv' := [(5, .int (0 : Int32)), (4, .int (9999 : Int32)), (3, .int (0 : Int32)), (0, .ref a0), (1, .int x1), (2, .int x2)]) hx hb dX12_together_8 hl (by decide) rfl (fun ls hl => ?_)
  refine lv_iconst (v := (0 : Int32)) hx hb dX12_together_10 (by decide) ?_
  refine lv_istore (lv' := [(6, .int (0 : Int32)), (5, .int (0 : Int32)), (4, .int (9999 : Int32)), (3, .int (0 : Int32)), (0, .ref a0), (1, .int x1), (2, .int x2)]) hx hb dX12_together_11 hl (by decide) rfl (fun ls hl => ?_)
  exact k_X12_together_13 C0 hA FU (0 : Int32) (9999 : Int32) (0 : Int32) (0 : Int32) hf _ _ hP hD hS ls (lv_sub hl [4, 5, 6, 3, 2, 1, 0] rfl)
