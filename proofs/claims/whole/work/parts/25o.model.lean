/-! ===== OrphanWaveModel.tale(IIIII)I ===== -/
abbrev rm_X12_tale : Room := { frames := 1, cells := 0, slots := 0, locals := 22 }
abbrev w_X12_tale (a0 : Nat) (q_text : Nat) (q_depths : Nat) (q_tune : Nat) (q_far : Nat) (q_books : Nat) (q_told : Nat) (q_years : Nat) (q_months : Nat) (q_ring : Nat) (q_woods : Nat) (q_ends : Nat) (q_wood : Nat) (q_sheets : Nat) (q_marsh : Nat) (q_oldest : Nat) (q_youngest : Nat) (q_knowns : Nat) (q_known : Nat) (q_weight : Nat) (q_chance : Nat) (q_digs : Nat) (q_draft : Nat) (q_isKept : Nat) (cA : Nat → ClassId) (s_trace : Int64) (s_typed : Int32) (s_earliest : Int32) (s_latest : Int32) (s_firstYear : Int32) (s_rings : Int32) : va_W := [(a0, .inr (12, [.long s_trace, .ref q_text, .int s_typed, .ref q_depths, .ref q_tune, .ref q_far, .ref q_books, .ref q_told, .int s_earliest, .int s_latest, .ref q_years, .ref q_months, .int s_firstYear, .int s_rings, .ref q_ring, .ref q_woods, .ref q_ends, .ref q_wood, .ref q_sheets, .ref q_marsh, .ref q_oldest, .ref q_youngest, .ref q_knowns, .ref q_known, .ref q_weight, .ref q_chance, .ref q_digs, .ref q_draft, .ref q_isKept]))]
theorem hw_X12_tale_c122 : Cond.constant RX12 122 (-1000000) ∈ wsX12_tale := by decide +kernel

def f_X12_tale (x1 : Int32) (x2 : Int32) (x3 : Int32) (x4 : Int32) (x5 : Int32) : Option ((Int32)) :=
  pcl (f_X12_in x1 (0 : Int32) (9999 : Int32)) (fun r_1 => (
  pbr (r_1 = 0)
    (some ((-1000000 : Int32)))
    (pcl (f_X12_in x2 (0 : Int32) (50 : Int32)) (fun r_4 => (
    pbr (r_4 = 0)
      (some ((-1000000 : Int32)))
      (pcl (f_X12_in x3 (1 : Int32) (99 : Int32)) (fun r_7 => (
      pbr (r_7 = 0)
        (some ((-1000000 : Int32)))
        (pcl (f_X12_in x4 x3 (99 : Int32)) (fun r_10 => (
        pbr (r_10 = 0)
          (some ((-1000000 : Int32)))
          (pcl (f_X12_in x5 (0 : Int32) (1 : Int32)) (fun r_13 => (
          pbr (r_13 = 0)
            (some ((-1000000 : Int32)))
            (pbr (x5 = 0)
              (some ((x1 - (x2 * x4))))
              (some ((x1 - (x2 * x3)))))))))))))))))))

set_option maxRecDepth 100000 in
set_option maxHeartbeats 4000000 in
theorem ct_X12_tale (l : Launch) (D : va_G) (cA : Nat → ClassId) (x1 : Int32) (x2 : Int32) (x3 : Int32) (x4 : Int32) (x5 : Int32) (a0 : Nat) (q_text : Nat) (q_depths : Nat) (q_tune : Nat) (q_far : Nat) (q_books : Nat) (q_told : Nat) (q_years : Nat) (q_months : Nat) (q_ring : Nat) (q_woods : Nat) (q_ends : Nat) (q_wood : Nat) (q_sheets : Nat) (q_marsh : Nat) (q_oldest : Nat) (q_youngest : Nat) (q_knowns : Nat) (q_known : Nat) (q_weight : Nat) (q_chance : Nat) (q_digs : Nat) (q_draft : Nat) (q_isKept : Nat) (s_trace : Int64) (s_typed : Int32) (s_earliest : Int32) (s_latest : Int32) (s_firstYear : Int32) (s_rings : Int32) (o_r : Int32) (hf : f_X12_tale x1 x2 x3 x4 x5 = some o_r) : CT l yX12_tale wsX12_tale rm_X12_tale D cA [.ref a0, .int x1, .int x2, .int x3, .int x4, .int x5] (w_X12_tale a0 q_text q_depths q_tune q_far q_books q_told q_years q_months q_ring q_woods q_ends q_wood q_sheets q_marsh q_oldest q_youngest q_knowns q_known q_weight q_chance q_digs q_draft q_isKept cA s_trace s_typed s_earliest s_latest s_firstYear s_rings) (w_X12_tale a0 q_text q_depths q_tune q_far q_books q_told q_years q_months q_ring q_woods q_ends q_wood q_sheets q_marsh q_oldest q_youngest q_knowns q_known q_weight q_chance q_digs q_draft q_isKept cA s_trace s_typed s_earliest s_latest s_firstYear s_rings) (some (.int o_r)) := by
  refine CT.ofW (cc := cX12_tale) (maxL := 6) (ret := (some .int)) (by decide +kernel) rfl (Nat.le_of_ble_eq_true rfl) ?_
  intro p e s m below meth c A C0 hA hP hD ls hl
  have C0 : MX p s m [.ref a0, .int x1, .int x2, .int x3, .int x4, .int x5].toArray meth c cX12_tale 6 wsX12_tale RX12 (some .int) D cA := C0
  have hl : lv_has ls 6 [(0, .ref a0), (1, .int x1), (2, .int x2), (3, .int x3), (4, .int x4), (5, .int x5)] := hl
  obtain ⟨hx, hb, hml, hown, hts, hr, hlocks, hX⟩ := id C0
  have hK := hX.1
  have hN := hX.2
  have hS : va_S A s.heap s.heap [] := va_S.rf
  unfold f_X12_tale at hf
  refine lv_iload_n hx hb dX12_tale_0 rfl (lv_at hl 1 rfl) ?_
  refine lv_iconst (v := (0 : Int32)) hx hb dX12_tale_1 (by decide) ?_
  refine lv_sipush (v := (9999 : Int32)) hx hb dX12_tale_2 (by decide) ?_
  obtain ⟨r_1, hc_2, hf⟩ := pcl_e hf
  refine m_callS2 (As := [.int x1, .int (0 : Int32), .int (9999 : Int32)]) (rest := []) ⟨hx, hb, hml, hown, hts⟩ hX (ct_X12_in l D cA x1 (0 : Int32) (9999 : Int32) r_1 hc_2) (va_cwS 3 hts gX12_tale_X12_in rfl rfl rfl (by decide +kernel) ⟨Nat.le_of_ble_eq_true rfl, Nat.le_of_ble_eq_true rfl⟩) hP hD hS hA [] [0] 1 (by decide) rfl rfl (WS' := (w_X12_tale a0 q_text q_depths q_tune q_far q_books q_told q_years q_months q_ring q_woods q_ends q_wood q_sheets q_marsh q_oldest q_youngest q_knowns q_known q_weight q_chance q_digs q_draft q_isKept cA s_trace s_typed s_earliest s_latest s_firstYear s_rings)) (WR := [(a0, .inr (12, [.long s_trace, .ref q_text, .int s_typed, .ref q_depths, .ref q_tune, .ref q_far, .ref q_books, .ref q_told, .int s_earliest, .int s_latest, .ref q_years, .ref q_months, .int s_firstYear, .int s_rings, .ref q_ring, .ref q_woods, .ref q_ends, .ref q_wood, .ref q_sheets, .ref q_marsh, .ref q_oldest, .ref q_youngest, .ref q_knowns, .ref q_known, .ref q_weight, .ref q_chance, .ref q_digs, .ref q_draft, .ref q_isKept]))]) rfl rfl rfl rfl (by decide) (by decide) rfl hl.1 rfl (st' := [.int r_1]) rfl (Nat.le_of_ble_eq_true rfl) ⟨Nat.zero_le _, Nat.zero_le _⟩ dX12_tale_5 (fun H locs hP hD hS => ?_)
  refine lv_if_eq (tgt := 52) hx hb dX12_tale_8 (by decide) (fun c_3 => ?_) (fun c_3 => ?_)
  · have hf := pbr_t c_3 hf
    refine lv_ldc (v := (-1000000 : Int32)) hx hb hown (hts _ hw_X12_tale_c122) dX12_tale_52 ?_
    obtain rfl := pe1 hf
    exact m_iret hx hb hr hlocks hP hS dX12_tale_54
  have hf := pbr_f c_3 hf
  refine lv_iload_n hx hb dX12_tale_11 rfl (lv_at hl 2 rfl) ?_
  refine lv_iconst (v := (0 : Int32)) hx hb dX12_tale_12 (by decide) ?_
  refine lv_bipush (v := (50 : Int32)) hx hb dX12_tale_13 (by decide) ?_
  obtain ⟨r_4, hc_5, hf⟩ := pcl_e hf
  refine m_callS2 (As := [.int x2, .int (0 : Int32), .int (50 : Int32)]) (rest := []) ⟨hx, hb, hml, hown, hts⟩ hX (ct_X12_in l D cA x2 (0 : Int32) (50 : Int32) r_4 hc_5) (va_cwS 3 hts gX12_tale_X12_in rfl rfl rfl (by decide +kernel) ⟨Nat.le_of_ble_eq_true rfl, Nat.le_of_ble_eq_true rfl⟩) hP hD hS hA [] [0] 1 (by decide) rfl rfl (WS' := (w_X12_tale a0 q_text q_depths q_tune q_far q_books q_told q_years q_months q_ring q_woods q_ends q_wood q_sheets q_marsh q_oldest q_youngest q_knowns q_known q_weight q_chance q_digs q_draft q_isKept cA s_trace s_typed s_earliest s_latest s_firstYear s_rings)) (WR := [(a0, .inr (12, [.long s_trace, .ref q_text, .int s_typed, .ref q_depths, .ref q_tune, .ref q_far, .ref q_books, .ref q_told, .int s_earliest, .int s_latest, .ref q_years, .ref q_months, .int s_firstYear, .int s_rings, .ref q_ring, .ref q_woods, .ref q_ends, .ref q_wood, .ref q_sheets, .ref q_marsh, .ref q_oldest, .ref q_youngest, .ref q_knowns, .ref q_known, .ref q_weight, .ref q_chance, .ref q_digs, .ref q_draft, .ref q_isKept]))]) rfl rfl rfl rfl (by decide) (by decide) rfl hl.1 rfl (st' := [.int r_4]) rfl (Nat.le_of_ble_eq_true rfl) ⟨Nat.zero_le _, Nat.zero_le _⟩ dX12_tale_15 (fun H locs hP hD hS => ?_)
  refine lv_if_eq (tgt := 52) hx hb dX12_tale_18 (by decide) (fun c_6 => ?_) (fun c_6 => ?_)
  · have hf := pbr_t c_6 hf
    refine lv_ldc (v := (-1000000 : Int32)) hx hb hown (hts _ hw_X12_tale_c122) dX12_tale_52 ?_
    obtain rfl := pe1 hf
    exact m_iret hx hb hr hlocks hP hS dX12_tale_54
  have hf := pbr_f c_6 hf
  refine lv_iload_n hx hb dX12_tale_21 rfl (lv_at hl 3 rfl) ?_
  refine lv_iconst (v := (1 : Int32)) hx hb dX12_tale_22 (by decide) ?_
  refine lv_bipush (v := (99 : Int32)) hx hb dX12_tale_23 (by decide) ?_
  obtain ⟨r_7, hc_8, hf⟩ := pcl_e hf
  refine m_callS2 (As := [.int x3, .int (1 : Int32), .int (99 : Int32)]) (rest := []) ⟨hx, hb, hml, hown, hts⟩ hX (ct_X12_in l D cA x3 (1 : Int32) (99 : Int32) r_7 hc_8) (va_cwS 3 hts gX12_tale_X12_in rfl rfl rfl (by decide +kernel) ⟨Nat.le_of_ble_eq_true rfl, Nat.le_of_ble_eq_true rfl⟩) hP hD hS hA [] [0] 1 (by decide) rfl rfl (WS' := (w_X12_tale a0 q_text q_depths q_tune q_far q_books q_told q_years q_months q_ring q_woods q_ends q_wood q_sheets q_marsh q_oldest q_youngest q_knowns q_known q_weight q_chance q_digs q_draft q_isKept cA s_trace s_typed s_earliest s_latest s_firstYear s_rings)) (WR := [(a0, .inr (12, [.long s_trace, .ref q_text, .int s_typed, .ref q_depths, .ref q_tune, .ref q_far, .ref q_books, .ref q_told, .int s_earliest, .int s_latest, .ref q_years, .ref q_months, .int s_firstYear, .int s_rings, .ref q_ring, .ref q_woods, .ref q_ends, .ref q_wood, .ref q_sheets, .ref q_marsh, .ref q_oldest, .ref q_youngest, .ref q_knowns, .ref q_known, .ref q_weight, .ref q_chance, .ref q_digs, .ref q_draft, .ref q_isKept]))]) rfl rfl rfl rfl (by decide) (by decide) rfl hl.1 rfl (st' := [.int r_7]) rfl (Nat.le_of_ble_eq_true rfl) ⟨Nat.zero_le _, Nat.zero_le _⟩ dX12_tale_25 (fun H locs hP hD hS => ?_)
  refine lv_if_eq (tgt := 52) hx hb dX12_tale_28 (by decide) (fun c_9 => ?_) (fun c_9 => ?_)
  · have hf := pbr_t c_9 hf
    refine lv_ldc (v := (-1000000 : Int32)) hx hb hown (hts _ hw_X12_tale_c122) dX12_tale_52 ?_
    obtain rfl := pe1 hf
    exact m_iret hx hb hr hlocks hP hS dX12_tale_54
  have hf := pbr_f c_9 hf
  refine lv_iload hx hb dX12_tale_31 (lv_at hl 4 rfl) ?_
  refine lv_iload_n hx hb dX12_tale_33 rfl (lv_at hl 3 rfl) ?_
  refine lv_bipush (v := (99 : Int32)) hx hb dX12_tale_34 (by decide) ?_
  obtain ⟨r_10, hc_11, hf⟩ := pcl_e hf
  refine m_callS2 (As := [.int x4, .int x3, .int (99 : Int32)]) (rest := []) ⟨hx, hb, hml, hown, hts⟩ hX (ct_X12_in l D cA x4 x3 (99 : Int32) r_10 hc_11) (va_cwS 3 hts gX12_tale_X12_in rfl rfl rfl (by decide +kernel) ⟨Nat.le_of_ble_eq_true rfl, Nat.le_of_ble_eq_true rfl⟩) hP hD hS hA [] [0] 1 (by decide) rfl rfl (WS' := (w_X12_tale a0 q_text q_depths q_tune q_far q_books q_told q_years q_months q_ring q_woods q_ends q_wood q_sheets q_marsh q_oldest q_youngest q_knowns q_known q_weight q_chance q_digs q_draft q_isKept cA s_trace s_typed s_earliest s_latest s_firstYear s_rings)) (WR := [(a0, .inr (12, [.long s_trace, .ref q_text, .int s_typed, .ref q_depths, .ref q_tune, .ref q_far, .ref q_books, .ref q_told, .int s_earliest, .int s_latest, .ref q_years, .ref q_months, .int s_firstYear, .int s_rings, .ref q_ring, .ref q_woods, .ref q_ends, .ref q_wood, .ref q_sheets, .ref q_marsh, .ref q_oldest, .ref q_youngest, .ref q_knowns, .ref q_known, .ref q_weight, .ref q_chance, .ref q_digs, .ref q_draft, .ref q_isKept]))]) rfl rfl rfl rfl (by decide) (by decide) rfl hl.1 rfl (st' := [.int r_10]) rfl (Nat.le_of_ble_eq_true rfl) ⟨Nat.zero_le _, Nat.zero_le _⟩ dX12_tale_36 (fun H locs hP hD hS => ?_)
  refine lv_if_eq (tgt := 52) hx hb dX12_tale_39 (by decide) (fun c_12 => ?_) (fun c_12 => ?_)
  · have hf := pbr_t c_12 hf
    refine lv_ldc (v := (-1000000 : Int32)) hx hb hown (hts _ hw_X12_tale_c122) dX12_tale_52 ?_
    obtain rfl := pe1 hf
    exact m_iret hx hb hr hlocks hP hS dX12_tale_54
  have hf := pbr_f c_12 hf
  refine lv_iload hx hb dX12_tale_42 (lv_at hl 5 rfl) ?_
  refine lv_iconst (v := (0 : Int32)) hx hb dX12_tale_44 (by decide) ?_
  refine lv_iconst (v := (1 : Int32)) hx hb dX12_tale_45 (by decide) ?_
  obtain ⟨r_13, hc_14, hf⟩ := pcl_e hf
  refine m_callS2 (As := [.int x5, .int (0 : Int32), .int (1 : Int32)]) (rest := []) ⟨hx, hb, hml, hown, hts⟩ hX (ct_X12_in l D cA x5 (0 : Int32) (1 : Int32) r_13 hc_14) (va_cwS 3 hts gX12_tale_X12_in rfl rfl rfl (by decide +kernel) ⟨Nat.le_of_ble_eq_true rfl, Nat.le_of_ble_eq_true rfl⟩) hP hD hS hA [] [0] 1 (by decide) rfl rfl (WS' := (w_X12_tale a0 q_text q_depths q_tune q_far q_books q_told q_years q_months q_ring q_woods q_ends q_wood q_sheets q_marsh q_oldest q_youngest q_knowns q_known q_weight q_chance q_digs q_draft q_isKept cA s_trace s_typed s_earliest s_latest s_firstYear s_rings)) (WR := [(a0, .inr (12, [.long s_trace, .ref q_text, .int s_typed, .ref q_depths, .ref q_tune, .ref q_far, .ref q_books, .ref q_told, .int s_earliest, .int s_latest, .ref q_years, .ref q_months, .int s_firstYear, .int s_rings, .ref q_ring, .ref q_woods, .ref q_ends, .ref q_wood, .ref q_sheets, .ref q_marsh, .ref q_oldest, .ref q_youngest, .ref q_knowns, .ref q_known, .ref q_weight, .ref q_chance, .ref q_digs, .ref q_draft, .ref q_isKept]))]) rfl rfl rfl rfl (by decide) (by decide) rfl hl.1 rfl (st' := [.int r_13]) rfl (Nat.le_of_ble_eq_true rfl) ⟨Nat.zero_le _, Nat.zero_le _⟩ dX12_tale_46 (fun H locs hP hD hS => ?_)
  refine lv_if_ne (tgt := 55) hx hb dX12_tale_49 (by decide) (fun c_15 => ?_) (fun c_15 => ?_)
  · have hf := pbr_f c_15 hf
    refine lv_iload_n hx hb dX12_tale_55 rfl (lv_at hl 1 rfl) ?_
    refine lv_iload_n hx hb dX12_tale_56 rfl (lv_at hl 2 rfl) ?_
    refine lv_iload hx hb dX12_tale_57 (lv_at hl 5 rfl) ?_
    refine lv_if_ne (tgt := 67) hx hb dX12_tale_59 (by decide) (fun c_16 => ?_) (fun c_16 => ?_)
    · have hf := pbr_f c_16 hf
      refine lv_iload_n hx hb dX12_tale_67 rfl (lv_at hl 3 rfl) ?_
      refine lv_imul hx hb dX12_tale_68 ?_
      refine lv_isub hx hb dX12_tale_69 ?_
      obtain rfl := pe1 hf
      exact m_iret hx hb hr hlocks hP hS dX12_tale_70
    have hf := pbr_t c_16 hf
    refine lv_iload hx hb dX12_tale_62 (lv_at hl 4 rfl) ?_
    refine lv_goto (tgt := 68) hx hb dX12_tale_64 (by decide) ?_
    refine lv_imul hx hb dX12_tale_68 ?_
    refine lv_isub hx hb dX12_tale_69 ?_
    obtain rfl := pe1 hf
    exact m_iret hx hb hr hlocks hP hS dX12_tale_70
  have hf := pbr_t c_15 hf
  refine lv_ldc (v := (-1000000 : Int32)) hx hb hown (hts _ hw_X12_tale_c122) dX12_tale_52 ?_
  obtain rfl := pe1 hf
  exact m_iret hx hb hr hlocks hP hS dX12_tale_54

/-! ===== OrphanWaveModel.known(I)I ===== -/
abbrev rm_X12_known : Room := { frames := 1, cells := 0, slots := 0, locals := 22 }
abbrev w_X12_known (a0 : Nat) (q_knowns : Nat) (q_known : Nat) (q_text : Nat) (q_depths : Nat) (q_tune : Nat) (q_far : Nat) (q_books : Nat) (q_told : Nat) (q_years : Nat) (q_months : Nat) (q_ring : Nat) (q_woods : Nat) (q_ends : Nat) (q_wood : Nat) (q_sheets : Nat) (q_marsh : Nat) (q_oldest : Nat) (q_youngest : Nat) (q_weight : Nat) (q_chance : Nat) (q_digs : Nat) (q_draft : Nat) (q_isKept : Nat) (cA : Nat → ClassId) (s_trace : Int64) (s_typed : Int32) (s_earliest : Int32) (s_latest : Int32) (s_firstYear : Int32) (s_rings : Int32) (s_knowns : Nat → Int32) (s_known : Nat → Int32) : va_W := [(a0, .inr (12, [.long s_trace, .ref q_text, .int s_typed, .ref q_depths, .ref q_tune, .ref q_far, .ref q_books, .ref q_told, .int s_earliest, .int s_latest, .ref q_years, .ref q_months, .int s_firstYear, .int s_rings, .ref q_ring, .ref q_woods, .ref q_ends, .ref q_wood, .ref q_sheets, .ref q_marsh, .ref q_oldest, .ref q_youngest, .ref q_knowns, .ref q_known, .ref q_weight, .ref q_chance, .ref q_digs, .ref q_draft, .ref q_isKept])), (q_knowns, .inl (cA 1, 3, .inl s_knowns)), (q_known, .inl (cA 1, 48, .inl s_known))]
theorem hn_X12_known_X12 : ∀ w ∈ u_ws RX12 TX12 29, w ∈ wsX12_known := by decide +kernel
theorem hw_X12_known_f59 : Cond.fieldLink RX12 59 "OrphanWaveModel" "knowns" "[I" ∈ wsX12_known := by decide +kernel
theorem hw_X12_known_f62 : Cond.fieldLink RX12 62 "OrphanWaveModel" "known" "[I" ∈ wsX12_known := by decide +kernel

def f_X12_known_39 (x1 : Int32) (s_knowns : Nat → Int32) (s_known : Nat → Int32) : Option ((Int32) × (Nat → Int32) × (Nat → Int32)) :=
  pbr ((s_knowns (0 : Int32).toNatClampNeg) = (16 : Int32))
    (some ((-3 : Int32), s_knowns, s_known))
    (pgd (pin (s_knowns (0 : Int32).toNatClampNeg) 48) (
    plt (upd s_known (s_knowns (0 : Int32).toNatClampNeg).toNatClampNeg x1 : Nat → Int32) (fun f_3 => (
    plt (upd s_knowns (0 : Int32).toNatClampNeg ((s_knowns (0 : Int32).toNatClampNeg) + (1 : Int32)) : Nat → Int32) (fun f_4 => (
    some ((f_4 (0 : Int32).toNatClampNeg), f_4, f_3)))))))

set_option maxRecDepth 100000 in
set_option maxHeartbeats 4000000 in
theorem k_X12_known_39 {p : Program} {l : Launch} {e : Env} {s : State} {m : MethodId} {args : Array Value} {below : List Frame} {meth : Method} {c : Code} {A : Nat → Prop} {D : va_G} {cA : Nat → ClassId} (C0 : MX p s m args meth c cX12_known 2 wsX12_known RX12 (some .int) D cA) (hA : ∀ q, s.heap.size ≤ q → A q) {a0 : Nat} {q_knowns : Nat} {q_known : Nat} {q_text : Nat} {q_depths : Nat} {q_tune : Nat} {q_far : Nat} {q_books : Nat} {q_told : Nat} {q_years : Nat} {q_months : Nat} {q_ring : Nat} {q_woods : Nat} {q_ends : Nat} {q_wood : Nat} {q_sheets : Nat} {q_marsh : Nat} {q_oldest : Nat} {q_youngest : Nat} {q_weight : Nat} {q_chance : Nat} {q_digs : Nat} {q_draft : Nat} {q_isKept : Nat} {s_trace : Int64} {s_typed : Int32} {s_earliest : Int32} {s_latest : Int32} {s_firstYear : Int32} {s_rings : Int32} {x1 : Int32} {o_r : Int32} {o_knowns : Nat → Int32} {o_known : Nat → Int32} : ∀ (s_knowns : Nat → Int32) (s_known : Nat → Int32), f_X12_known_39 x1 s_knowns s_known = some (o_r, o_knowns, o_known) → ∀ (H : Heap) (locs : List Loc), va_P D vwCl (w_X12_known a0 q_knowns q_known q_text q_depths q_tune q_far q_books q_told q_years q_months q_ring q_woods q_ends q_wood q_sheets q_marsh q_oldest q_youngest q_weight q_chance q_digs q_draft q_isKept cA s_trace s_typed s_earliest s_latest s_firstYear s_rings s_knowns s_known) H → va_D A (w_X12_known a0 q_knowns q_known q_text q_depths q_tune q_far q_books q_told q_years q_months q_ring q_woods q_ends q_wood q_sheets q_marsh q_oldest q_youngest q_weight q_chance q_digs q_draft q_isKept cA s_trace s_typed s_earliest s_latest s_firstYear s_rings s_knowns s_known) → va_S A s.heap H locs → ∀ ls : Array Slot, lv_has ls 2 [(0, .ref a0), (1, .int x1)] → W p l e rm_X12_known s m args below meth c H locs 0 0 (MQ below (CQ D (some (.int o_r)) (w_X12_known a0 q_knowns q_known q_text q_depths q_tune q_far q_books q_told q_years q_months q_ring q_woods q_ends q_wood q_sheets q_marsh q_oldest q_youngest q_weight q_chance q_digs q_draft q_isKept cA s_trace s_typed s_earliest s_latest s_firstYear s_rings o_knowns o_known) A) args s 0 0 A) (F0 m 39 ls []) := by
  obtain ⟨hx, hb, hml, hown, hts, hr, hlocks, hX⟩ := C0
  have hK := hX.1
  have hN := hX.2
  intro s_knowns s_known hf H locs hP hD hS ls hl
  unfold f_X12_known_39 at hf
  refine lv_aload_n hx hb dX12_known_39 rfl (lv_at hl 0 rfl) ?_
  refine va_get (D := D) (ci := 12) (v := .ref q_knowns) (C := RX12) (T := TX12) (N := 29) hx hb hts hn_X12_known_X12 hown hK hP 0 rfl rfl 22 (by decide) (hts _ hw_X12_known_f59) (fun _ h9 => h9) rfl dX12_known_40 ?_
  refine lv_iconst (v := (0 : Int32)) hx hb dX12_known_43 (by decide) ?_
  refine va_iald hx hb hK hP 1 1 rfl rfl (show pin (0 : Int32) 3 by decide +kernel) dX12_known_44 ?_
  refine lv_bipush (v := (16 : Int32)) hx hb dX12_known_45 (by decide) ?_
  refine lv_icmp_ne (tgt := 53) hx hb dX12_known_47 (by decide) (fun c_1 => ?_) (fun c_1 => ?_)
  · have hf := pbr_f c_1 hf
    refine lv_aload_n hx hb dX12_known_53 rfl (lv_at hl 0 rfl) ?_
    refine va_get (D := D) (ci := 12) (v := .ref q_known) (C := RX12) (T := TX12) (N := 29) hx hb hts hn_X12_known_X12 hown hK hP 0 rfl rfl 23 (by decide) (hts _ hw_X12_known_f62) (fun _ h9 => h9) rfl dX12_known_54 ?_
    refine lv_aload_n hx hb dX12_known_57 rfl (lv_at hl 0 rfl) ?_
    refine va_get (D := D) (ci := 12) (v := .ref q_knowns) (C := RX12) (T := TX12) (N := 29) hx hb hts hn_X12_known_X12 hown hK hP 0 rfl rfl 22 (by decide) (hts _ hw_X12_known_f59) (fun _ h9 => h9) rfl dX12_known_58 ?_
    refine lv_iconst (v := (0 : Int32)) hx hb dX12_known_61 (by decide) ?_
    refine va_iald hx hb hK hP 1 1 rfl rfl (show pin (0 : Int32) 3 by decide +kernel) dX12_known_62 ?_
    refine lv_iload_n hx hb dX12_known_63 rfl (lv_at hl 1 rfl) ?_
    obtain ⟨g_2, hf⟩ := pgd_e hf
    refine va_iast hx hb hK hP hD hS 2 1 rfl rfl g_2 dX12_known_64 (fun H locs hP hD hS => ?_)
    obtain ⟨f_3, ef_3⟩ : ∃ z : Nat → Int32, z = upd s_known (s_knowns (0 : Int32).toNatClampNeg).toNatClampNeg x1 := ⟨_, rfl⟩
    have hf := plt_e ef_3 hf
    have hP : va_P D vwCl (w_X12_known a0 q_knowns q_known q_text q_depths q_tune q_far q_books q_told q_years q_months q_ring q_woods q_ends q_wood q_sheets q_marsh q_oldest q_youngest q_weight q_chance q_digs q_draft q_isKept cA s_trace s_typed s_earliest s_latest s_firstYear s_rings s_knowns f_3) H := by rw [ef_3]; exact hP
    have hD : va_D A (w_X12_known a0 q_knowns q_known q_text q_depths q_tune q_far q_books q_told q_years q_months q_ring q_woods q_ends q_wood q_sheets q_marsh q_oldest q_youngest q_weight q_chance q_digs q_draft q_isKept cA s_trace s_typed s_earliest s_latest s_firstYear s_rings s_knowns f_3) := by rw [ef_3]; exact hD
    refine lv_aload_n hx hb dX12_known_65 rfl (lv_at hl 0 rfl) ?_
    refine va_get (D := D) (ci := 12) (v := .ref q_knowns) (C := RX12) (T := TX12) (N := 29) hx hb hts hn_X12_known_X12 hown hK hP 0 rfl rfl 22 (by decide) (hts _ hw_X12_known_f59) (fun _ h9 => h9) rfl dX12_known_66 ?_
    refine lv_iconst (v := (0 : Int32)) hx hb dX12_known_69 (by decide) ?_
    refine lv_dup2_11 hx hb dX12_known_70 rfl rfl ?_
    refine va_iald hx hb hK hP 1 1 rfl rfl (show pin (0 : Int32) 3 by decide +kernel) dX12_known_71 ?_
    refine lv_iconst (v := (1 : Int32)) hx hb dX12_known_72 (by decide) ?_
    refine lv_iadd hx hb dX12_known_73 ?_
    refine va_iast hx hb hK hP hD hS 1 1 rfl rfl (show pin (0 : Int32) 3 by decide +kernel) dX12_known_74 (fun H locs hP hD hS => ?_)
    obtain ⟨f_4, ef_4⟩ : ∃ z : Nat → Int32, z = upd s_knowns (0 : Int32).toNatClampNeg ((s_knowns (0 : Int32).toNatClampNeg) + (1 : Int32)) := ⟨_, rfl⟩
    have hf := plt_e ef_4 hf
    have hP : va_P D vwCl (w_X12_known a0 q_knowns q_known q_text q_depths q_tune q_far q_books q_told q_years q_months q_ring q_woods q_ends q_wood q_sheets q_marsh q_oldest q_youngest q_weight q_chance q_digs q_draft q_isKept cA s_trace s_typed s_earliest s_latest s_firstYear s_rings f_4 f_3) H := by rw [ef_4]; exact hP
    have hD : va_D A (w_X12_known a0 q_knowns q_known q_text q_depths q_tune q_far q_books q_told q_years q_months q_ring q_woods q_ends q_wood q_sheets q_marsh q_oldest q_youngest q_weight q_chance q_digs q_draft q_isKept cA s_trace s_typed s_earliest s_latest s_firstYear s_rings f_4 f_3) := by rw [ef_4]; exact hD
    refine lv_aload_n hx hb dX12_known_75 rfl (lv_at hl 0 rfl) ?_
    refine va_get (D := D) (ci := 12) (v := .ref q_knowns) (C := RX12) (T := TX12) (N := 29) hx hb hts hn_X12_known_X12 hown hK hP 0 rfl rfl 22 (by decide) (hts _ hw_X12_known_f59) (fun _ h9 => h9) rfl dX12_known_76 ?_
    refine lv_iconst (v := (0 : Int32)) hx hb dX12_known_79 (by decide) ?_
    refine va_iald hx hb hK hP 1 1 rfl rfl (show pin (0 : Int32) 3 by decide +kernel) dX12_known_80 ?_
    obtain ⟨rfl, rfl, rfl⟩ := pe3 hf
    exact m_iret hx hb hr hlocks hP hS dX12_known_81
  have hf := pbr_t c_1 hf
  refine lv_bipush (v := (-3 : Int32)) hx hb dX12_known_50 (by decide) ?_
  obtain ⟨rfl, rfl, rfl⟩ := pe3 hf
  exact m_iret hx hb hr hlocks hP hS dX12_known_52

def f_X12_known (x1 : Int32) (s_knowns : Nat → Int32) (s_known : Nat → Int32) : Option ((Int32) × (Nat → Int32) × (Nat → Int32)) :=
  pcl (f_X12_in x1 (0 : Int32) (9999 : Int32)) (fun r_1 => (
  pbr (r_1 = 0)
    (some ((-1 : Int32), s_knowns, s_known))
    (pbr ((s_knowns (0 : Int32).toNatClampNeg) ≤ 0)
      (f_X12_known_39 x1 s_knowns s_known)
      (pgd (pin ((s_knowns (0 : Int32).toNatClampNeg) - (1 : Int32)) 48) (
      pbr ((s_known ((s_knowns (0 : Int32).toNatClampNeg) - (1 : Int32)).toNatClampNeg) < x1)
        (f_X12_known_39 x1 s_knowns s_known)
        (some ((-1 : Int32), s_knowns, s_known)))))))

set_option maxRecDepth 100000 in
set_option maxHeartbeats 4000000 in
theorem ct_X12_known (l : Launch) (D : va_G) (cA : Nat → ClassId) (x1 : Int32) (a0 : Nat) (q_knowns : Nat) (q_known : Nat) (q_text : Nat) (q_depths : Nat) (q_tune : Nat) (q_far : Nat) (q_books : Nat) (q_told : Nat) (q_years : Nat) (q_months : Nat) (q_ring : Nat) (q_woods : Nat) (q_ends : Nat) (q_wood : Nat) (q_sheets : Nat) (q_marsh : Nat) (q_oldest : Nat) (q_youngest : Nat) (q_weight : Nat) (q_chance : Nat) (q_digs : Nat) (q_draft : Nat) (q_isKept : Nat) (s_trace : Int64) (s_typed : Int32) (s_earliest : Int32) (s_latest : Int32) (s_firstYear : Int32) (s_rings : Int32) (s_knowns : Nat → Int32) (s_known : Nat → Int32) (o_r : Int32) (o_knowns : Nat → Int32) (o_known : Nat → Int32) (hf : f_X12_known x1 s_knowns s_known = some (o_r, o_knowns, o_known)) : CT l yX12_known wsX12_known rm_X12_known D cA [.ref a0, .int x1] (w_X12_known a0 q_knowns q_known q_text q_depths q_tune q_far q_books q_told q_years q_months q_ring q_woods q_ends q_wood q_sheets q_marsh q_oldest q_youngest q_weight q_chance q_digs q_draft q_isKept cA s_trace s_typed s_earliest s_latest s_firstYear s_rings s_knowns s_known) (w_X12_known a0 q_knowns q_known q_text q_depths q_tune q_far q_books q_told q_years q_months q_ring q_woods q_ends q_wood q_sheets q_marsh q_oldest q_youngest q_weight q_chance q_digs q_draft q_isKept cA s_trace s_typed s_earliest s_latest s_firstYear s_rings o_knowns o_known) (some (.int o_r)) := by
  refine CT.ofW (cc := cX12_known) (maxL := 2) (ret := (some .int)) (by decide +kernel) rfl (Nat.le_of_ble_eq_true rfl) ?_
  intro p e s m below meth c A C0 hA hP hD ls hl
  have C0 : MX p s m [.ref a0, .int x1].toArray meth c cX12_known 2 wsX12_known RX12 (some .int) D cA := C0
  have hl : lv_has ls 2 [(0, .ref a0), (1, .int x1)] := hl
  obtain ⟨hx, hb, hml, hown, hts, hr, hlocks, hX⟩ := id C0
  have hK := hX.1
  have hN := hX.2
  have hS : va_S A s.heap s.heap [] := va_S.rf
  unfold f_X12_known at hf
  refine lv_iload_n hx hb dX12_known_0 rfl (lv_at hl 1 rfl) ?_
  refine lv_iconst (v := (0 : Int32)) hx hb dX12_known_1 (by decide) ?_
  refine lv_sipush (v := (9999 : Int32)) hx hb dX12_known_2 (by decide) ?_
  obtain ⟨r_1, hc_2, hf⟩ := pcl_e hf
  refine m_callS2 (As := [.int x1, .int (0 : Int32), .int (9999 : Int32)]) (rest := []) ⟨hx, hb, hml, hown, hts⟩ hX (ct_X12_in l D cA x1 (0 : Int32) (9999 : Int32) r_1 hc_2) (va_cwS 3 hts gX12_known_X12_in rfl rfl rfl (by decide +kernel) ⟨Nat.le_of_ble_eq_true rfl, Nat.le_of_ble_eq_true rfl⟩) hP hD hS hA [] [0, 1, 2] 3 (by decide) rfl rfl (WS' := (w_X12_known a0 q_knowns q_known q_text q_depths q_tune q_far q_books q_told q_years q_months q_ring q_woods q_ends q_wood q_sheets q_marsh q_oldest q_youngest q_weight q_chance q_digs q_draft q_isKept cA s_trace s_typed s_earliest s_latest s_firstYear s_rings s_knowns s_known)) (WR := [(a0, .inr (12, [.long s_trace, .ref q_text, .int s_typed, .ref q_depths, .ref q_tune, .ref q_far, .ref q_books, .ref q_told, .int s_earliest, .int s_latest, .ref q_years, .ref q_months, .int s_firstYear, .int s_rings, .ref q_ring, .ref q_woods, .ref q_ends, .ref q_wood, .ref q_sheets, .ref q_marsh, .ref q_oldest, .ref q_youngest, .ref q_knowns, .ref q_known, .ref q_weight, .ref q_chance, .ref q_digs, .ref q_draft, .ref q_isKept])), (q_knowns, .inl (cA 1, 3, .inl s_knowns)), (q_known, .inl (cA 1, 48, .inl s_known))]) rfl rfl rfl rfl (by decide) (by decide) rfl hl.1 rfl (st' := [.int r_1]) rfl (Nat.le_of_ble_eq_true rfl) ⟨Nat.zero_le _, Nat.zero_le _⟩ dX12_known_5 (fun H locs hP hD hS => ?_)
  refine lv_if_eq (tgt := 37) hx hb dX12_known_8 (by decide) (fun c_3 => ?_) (fun c_3 => ?_)
  · have hf := pbr_t c_3 hf
    refine lv_iconst (v := (-1 : Int32)) hx hb dX12_known_37 (by decide) ?_
    obtain ⟨rfl, rfl, rfl⟩ := pe3 hf
    exact m_iret hx hb hr hlocks hP hS dX12_known_38
  have hf := pbr_f c_3 hf
  refine lv_aload_n hx hb dX12_known_11 rfl (lv_at hl 0 rfl) ?_
  refine va_get (D := D) (ci := 12) (v := .ref q_knowns) (C := RX12) (T := TX12) (N := 29) hx hb hts hn_X12_known_X12 hown hK hP 0 rfl rfl 22 (by decide) (hts _ hw_X12_known_f59) (fun _ h9 => h9) rfl dX12_known_12 ?_
  refine lv_iconst (v := (0 : Int32)) hx hb dX12_known_15 (by decide) ?_
  refine va_iald hx hb hK hP 1 1 rfl rfl (show pin (0 : Int32) 3 by decide +kernel) dX12_known_16 ?_
  refine lv_if_le (tgt := 39) hx hb dX12_known_17 (by decide) (fun c_4 => ?_) (fun c_4 => ?_)
  · have hf := pbr_t c_4 hf
    exact k_X12_known_39 C0 hA s_knowns s_known hf _ _ hP hD hS ls (lv_sub hl [0, 1] rfl)
  have hf := pbr_f c_4 hf
  refine lv_iload_n hx hb dX12_known_20 rfl (lv_at hl 1 rfl) ?_
  refine lv_aload_n hx hb dX12_known_21 rfl (lv_at hl 0 rfl) ?_
  refine va_get (D := D) (ci := 12) (v := .ref q_known) (C := RX12) (T := TX12) (N := 29) hx hb hts hn_X12_known_X12 hown hK hP 0 rfl rfl 23 (by decide) (hts _ hw_X12_known_f62) (fun _ h9 => h9) rfl dX12_known_22 ?_
  refine lv_aload_n hx hb dX12_known_25 rfl (lv_at hl 0 rfl) ?_
  refine va_get (D := D) (ci := 12) (v := .ref q_knowns) (C := RX12) (T := TX12) (N := 29) hx hb hts hn_X12_known_X12 hown hK hP 0 rfl rfl 22 (by decide) (hts _ hw_X12_known_f59) (fun _ h9 => h9) rfl dX12_known_26 ?_
  refine lv_iconst (v := (0 : Int32)) hx hb dX12_known_29 (by decide) ?_
  refine va_iald hx hb hK hP 1 1 rfl rfl (show pin (0 : Int32) 3 by decide +kernel) dX12_known_30 ?_
  refine lv_iconst (v := (1 : Int32)) hx hb dX12_known_31 (by decide) ?_
  refine lv_isub hx hb dX12_known_32 ?_
  obtain ⟨g_5, hf⟩ := pgd_e hf
  refine va_iald hx hb hK hP 2 1 rfl rfl g_5 dX12_known_33 ?_
  refine lv_icmp_gt (tgt := 39) hx hb dX12_known_34 (by decide) (fun c_6 => ?_) (fun c_6 => ?_)
  · have hf := pbr_t c_6 hf
    exact k_X12_known_39 C0 hA s_knowns s_known hf _ _ hP hD hS ls (lv_sub hl [0, 1] rfl)
  have hf := pbr_f c_6 hf
  refine lv_iconst (v := (-1 : Int32)) hx hb dX12_known_37 (by decide) ?_
  obtain ⟨rfl, rfl, rfl⟩ := pe3 hf
  exact m_iret hx hb hr hlocks hP hS dX12_known_38

/-! ===== OrphanWaveModel.common(JJ)J ===== -/
abbrev rm_X12_common : Room := { frames := 0, cells := 0, slots := 0, locals := 0 }
abbrev w_X12_common  (cA : Nat → ClassId)  : va_W := []

def f_X12_common_6 (x0 : Int64) (x2 : Int64) : Nat → (Int64) → (Int64) → Option ((Int64))
  | 0, _, _ => none
  | k + 1, x4, x6 =>
    pbr ((lg_cmp x6 (0 : Int64)) = 0)
      (some (x4))
      (pgd (¬ x6 = 0) (
      plt ((x4 - x4 / x6 * x6) : Int64) (fun x8_3 => (
      (f_X12_common_6 x0 x2 k) x6 x8_3))))

set_option maxRecDepth 100000 in
set_option maxHeartbeats 4000000 in
theorem k_X12_common_6 {p : Program} {l : Launch} {e : Env} {s : State} {m : MethodId} {args : Array Value} {below : List Frame} {meth : Method} {c : Code} {A : Nat → Prop} {D : va_G} {cA : Nat → ClassId} (C0 : MX p s m args meth c cX12_common 10 wsX12_common RX12 (some .long) D cA) (hA : ∀ q, s.heap.size ≤ q → A q) {x0 : Int64} {x2 : Int64} {o_r : Int64} : ∀ (k : Nat) (x4 : Int64) (x6 : Int64), f_X12_common_6 x0 x2 k x4 x6 = some o_r → ∀ (H : Heap) (locs : List Loc), va_P D vwCl (w_X12_common  cA ) H → va_D A (w_X12_common  cA ) → va_S A s.heap H locs → ∀ ls : Array Slot, lv_has ls 10 [(4, .long x4), (6, .long x6)] → W p l e rm_X12_common s m args below meth c H locs 0 0 (MQ below (CQ D (some (.long o_r)) (w_X12_common  cA ) A) args s 0 0 A) (F0 m 6 ls []) := by
  obtain ⟨hx, hb, hml, hown, hts, hr, hlocks, hX⟩ := C0
  have hK := hX.1
  have hN := hX.2
  intro k
  induction k with
  | zero =>
    intro x4 x6 hf
    cases hf
  | succ k ih =>
    intro x4 x6 hf H locs hP hD hS ls hl
    rw [f_X12_common_6] at hf
    refine lv_lload hx hb dX12_common_6 (lv_at hl 1 rfl) ?_
    refine lv_lconst (v := (0 : Int64)) hx hb dX12_common_8 (by decide) ?_
    refine W.lcmp hx hb dX12_common_9 ?_
    refine lv_if_eq (tgt := 31) hx hb dX12_common_10 (by decide) (fun c_1 => ?_) (fun c_1 => ?_)
    · have hf := pbr_t c_1 hf
      refine lv_lload hx hb dX12_common_31 (lv_at hl 0 rfl) ?_
      obtain rfl := pe1 hf
      exact m_lret hx hb hr hlocks hP hS dX12_common_33
    have hf := pbr_f c_1 hf
    refine lv_lload hx hb dX12_common_13 (lv_at hl 0 rfl) ?_
    refine lv_lload hx hb dX12_common_15 (lv_at hl 1 rfl) ?_
    obtain ⟨g_2, hf⟩ := pgd_e hf
    refine lv_lrem hx hb dX12_common_17 g_2 ?_
    refine lv_topl (fun x8_3 ex8_3 => ?_)
    have hf := plt_e ex8_3 hf
    refine lv_lstore (lv' := [(8, .long x8_3), (4, .long x4), (6, .long x6)]) hx hb dX12_common_18 hl (by decide) rfl (fun ls hl => ?_)
    refine lv_lload hx hb dX12_common_20 (lv_at hl 2 rfl) ?_
    refine lv_lstore (lv' := [(4, .long x6), (8, .long x8_3), (6, .long x6)]) hx hb dX12_common_22 hl (by decide) rfl (fun ls hl => ?_)
    refine lv_lload hx hb dX12_common_24 (lv_at hl 1 rfl) ?_
    refine lv_lstore (lv' := [(6, .long x8_3), (4, .long x6), (8, .long x8_3)]) hx hb dX12_common_26 hl (by decide) rfl (fun ls hl => ?_)
    refine lv_goto (tgt := 6) hx hb dX12_common_28 (by decide) ?_
    exact ih x6 x8_3 hf _ _ hP hD hS ls (lv_sub hl [1, 0] rfl)

def f_X12_common (x0 : Int64) (x2 : Int64) : Option ((Int64)) :=
  f_X12_common_6 x0 x2 FU x0 x2

set_option maxRecDepth 100000 in
set_option maxHeartbeats 4000000 in
theorem ct_X12_common (l : Launch) (D : va_G) (cA : Nat → ClassId) (x0 : Int64) (x2 : Int64) (o_r : Int64) (hf : f_X12_common x0 x2 = some o_r) : CT l yX12_common wsX12_common rm_X12_common D cA [.long x0, .long x2] (w_X12_common  cA ) (w_X12_common  cA ) (some (.long o_r)) := by
  refine CT.ofW (cc := cX12_common) (maxL := 10) (ret := (some .long)) (by decide +kernel) rfl (Nat.le_of_ble_eq_true rfl) ?_
  intro p e s m below meth c A C0 hA hP hD ls hl
  have C0 : MX p s m [.long x0, .long x2].toArray meth c cX12_common 10 wsX12_common RX12 (some .long) D cA := C0
  have hl : lv_has ls 10 [(0, .long x0), (2, .long x2)] := hl
  obtain ⟨hx, hb, hml, hown, hts, hr, hlocks, hX⟩ := id C0
  have hK := hX.1
  have hN := hX.2
  have hS : va_S A s.heap s.heap [] := va_S.rf
  unfold f_X12_common at hf
  refine lv_lload_n hx hb dX12_common_0 rfl (lv_at hl 0 rfl) ?_
  refine lv_lstore (lv' := [(4, .long x0), (0, .long x0), (2, .long x2)]) hx hb dX12_common_1 hl (by decide) rfl (fun ls hl => ?_)
  refine lv_lload_n hx hb dX12_common_3 rfl (lv_at hl 2 rfl) ?_
  refine lv_lstore (lv' := [(6, .long x2), (4, .long x0), (0, .long x0), (2, .long x2)]) hx hb dX12_common_4 hl (by decide) rfl (fun ls hl => ?_)
  exact k_X12_common_6 C0 hA FU x0 x2 hf _ _ hP hD hS ls (lv_sub hl [1, 0] rfl)

/-! ===== OrphanWaveModel.inLeast(JJI)J ===== -/
abbrev rm_X12_inLeast : Room := { frames := 1, cells := 0, slots := 0, locals := 29 }
abbrev w_X12_inLeast  (cA : Nat → ClassId)  : va_W := []

def f_X12_inLeast (x0 : Int64) (x2 : Int64) (x4 : Int32) : Option ((Int64)) :=
  pcl (f_X12_common x0 x2) (fun r_1 => (
  pbr (x4 = 0)
    (pgd (¬ r_1 = 0) (
    some ((x0 / r_1))))
    (pgd (¬ r_1 = 0) (
    some ((x2 / r_1))))))

set_option maxRecDepth 100000 in
set_option maxHeartbeats 4000000 in
theorem ct_X12_inLeast (l : Launch) (D : va_G) (cA : Nat → ClassId) (x0 : Int64) (x2 : Int64) (x4 : Int32) (o_r : Int64) (hf : f_X12_inLeast x0 x2 x4 = some o_r) : CT l yX12_inLeast wsX12_inLeast rm_X12_inLeast D cA [.long x0, .long x2, .int x4] (w_X12_inLeast  cA ) (w_X12_inLeast  cA ) (some (.long o_r)) := by
  refine CT.ofW (cc := cX12_inLeast) (maxL := 7) (ret := (some .long)) (by decide +kernel) rfl (Nat.le_of_ble_eq_true rfl) ?_
  intro p e s m below meth c A C0 hA hP hD ls hl
  have C0 : MX p s m [.long x0, .long x2, .int x4].toArray meth c cX12_inLeast 7 wsX12_inLeast RX12 (some .long) D cA := C0
  have hl : lv_has ls 7 [(0, .long x0), (2, .long x2), (4, .int x4)] := hl
  obtain ⟨hx, hb, hml, hown, hts, hr, hlocks, hX⟩ := id C0
  have hK := hX.1
  have hN := hX.2
  have hS : va_S A s.heap s.heap [] := va_S.rf
  unfold f_X12_inLeast at hf
  refine lv_lload_n hx hb dX12_inLeast_0 rfl (lv_at hl 0 rfl) ?_
  refine lv_lload_n hx hb dX12_inLeast_1 rfl (lv_at hl 1 rfl) ?_
  obtain ⟨r_1, hc_2, hf⟩ := pcl_e hf
  refine m_callS2 (As := [.long x0, .long x2]) (rest := []) ⟨hx, hb, hml, hown, hts⟩ hX (ct_X12_common l D cA x0 x2 r_1 hc_2) (va_cwS 2 hts gX12_inLeast_X12_common rfl rfl rfl (by decide +kernel) ⟨Nat.le_of_ble_eq_true rfl, Nat.le_of_ble_eq_true rfl⟩) hP hD hS hA [] [] 0 (by decide) rfl rfl (WS' := (w_X12_inLeast  cA )) (WR := []) rfl rfl rfl rfl (by decide) (by decide) rfl hl.1 rfl (st' := [.long r_1]) rfl (Nat.le_of_ble_eq_true rfl) ⟨Nat.zero_le _, Nat.zero_le _⟩ dX12_inLeast_2 (fun H locs hP hD hS => ?_)
  refine lv_lstore (lv' := [(5, .long r_1), (0, .long x0), (2, .long x2), (4, .int x4)]) hx hb dX12_inLeast_5 hl (by decide) rfl (fun ls hl => ?_)
  refine lv_iload hx hb dX12_inLeast_7 (lv_at hl 3 rfl) ?_
  refine lv_if_ne (tgt := 19) hx hb dX12_inLeast_9 (by decide) (fun c_3 => ?_) (fun c_3 => ?_)
  · have hf := pbr_f c_3 hf
    refine lv_lload_n hx hb dX12_inLeast_19 rfl (lv_at hl 2 rfl) ?_
    refine lv_lload hx hb dX12_inLeast_20 (lv_at hl 0 rfl) ?_
    obtain ⟨g_4, hf⟩ := pgd_e hf
    refine lv_ldiv hx hb dX12_inLeast_22 g_4 ?_
    obtain rfl := pe1 hf
    exact m_lret hx hb hr hlocks hP hS dX12_inLeast_23
  have hf := pbr_t c_3 hf
  refine lv_lload_n hx hb dX12_inLeast_12 rfl (lv_at hl 1 rfl) ?_
  refine lv_lload hx hb dX12_inLeast_13 (lv_at hl 0 rfl) ?_
  obtain ⟨g_5, hf⟩ := pgd_e hf
  refine lv_ldiv hx hb dX12_inLeast_15 g_5 ?_
  refine lv_goto (tgt := 23) hx hb dX12_inLeast_16 (by decide) ?_
  obtain rfl := pe1 hf
  exact m_lret hx hb hr hlocks hP hS dX12_inLeast_23

/-! ===== OrphanWaveModel.next(II)I ===== -/
abbrev rm_X12_next : Room := { frames := 2, cells := 0, slots := 0, locals := 55 }
abbrev w_X12_next (a0 : Nat) (q_knowns : Nat) (q_tune : Nat) (q_known : Nat) (q_text : Nat) (q_depths : Nat) (q_far : Nat) (q_books : Nat) (q_told : Nat) (q_years : Nat) (q_months : Nat) (q_ring : Nat) (q_woods : Nat) (q_ends : Nat) (q_wood : Nat) (q_sheets : Nat) (q_marsh : Nat) (q_oldest : Nat) (q_youngest : Nat) (q_weight : Nat) (q_chance : Nat) (q_digs : Nat) (q_draft : Nat) (q_isKept : Nat) (cA : Nat → ClassId) (s_trace : Int64) (s_typed : Int32) (s_earliest : Int32) (s_latest : Int32) (s_firstYear : Int32) (s_rings : Int32) (s_knowns : Nat → Int32) (s_tune : Nat → Int32) (s_known : Nat → Int32) : va_W := [(a0, .inr (12, [.long s_trace, .ref q_text, .int s_typed, .ref q_depths, .ref q_tune, .ref q_far, .ref q_books, .ref q_told, .int s_earliest, .int s_latest, .ref q_years, .ref q_months, .int s_firstYear, .int s_rings, .ref q_ring, .ref q_woods, .ref q_ends, .ref q_wood, .ref q_sheets, .ref q_marsh, .ref q_oldest, .ref q_youngest, .ref q_knowns, .ref q_known, .ref q_weight, .ref q_chance, .ref q_digs, .ref q_draft, .ref q_isKept])), (q_knowns, .inl (cA 1, 3, .inl s_knowns)), (q_tune, .inl (cA 1, 3, .inl s_tune)), (q_known, .inl (cA 1, 48, .inl s_known))]
theorem hn_X12_next_X12 : ∀ w ∈ u_ws RX12 TX12 29, w ∈ wsX12_next := by decide +kernel
theorem hw_X12_next_c122 : Cond.constant RX12 122 (-1000000) ∈ wsX12_next := by decide +kernel
theorem hw_X12_next_f59 : Cond.fieldLink RX12 59 "OrphanWaveModel" "knowns" "[I" ∈ wsX12_next := by decide +kernel
theorem hw_X12_next_f17 : Cond.fieldLink RX12 17 "OrphanWaveModel" "tune" "[I" ∈ wsX12_next := by decide +kernel
theorem hw_X12_next_f62 : Cond.fieldLink RX12 62 "OrphanWaveModel" "known" "[I" ∈ wsX12_next := by decide +kernel

def f_X12_next_152 (r85 : (Int32) → (Int32) → (Int32) → (Int32) → Option ((Int32))) (s_knowns : Nat → Int32) (s_tune : Nat → Int32) (s_known : Nat → Int32) (x1 : Int32) (x2 : Int32) (x3 : Int32) (x4 : Int32) (x6 : Int32) (z0 : Int32) (z1 : Int32) : Option ((Int32)) :=
  plt ((z0 + z1) : Int32) (fun x5_1 => (
  plt (x6 + (1 : Int32) : Int32) (fun x6_2 => (
  r85 x3 x4 x5_1 x6_2))))

set_option maxRecDepth 100000 in
set_option maxHeartbeats 4000000 in
theorem k_X12_next_152 {p : Program} {l : Launch} {e : Env} {s : State} {m : MethodId} {args : Array Value} {below : List Frame} {meth : Method} {c : Code} {A : Nat → Prop} {D : va_G} {cA : Nat → ClassId} (C0 : MX p s m args meth c cX12_next 8 wsX12_next RX12 (some .int) D cA) (hA : ∀ q, s.heap.size ≤ q → A q) {a0 : Nat} {q_knowns : Nat} {q_tune : Nat} {q_known : Nat} {q_text : Nat} {q_depths : Nat} {q_far : Nat} {q_books : Nat} {q_told : Nat} {q_years : Nat} {q_months : Nat} {q_ring : Nat} {q_woods : Nat} {q_ends : Nat} {q_wood : Nat} {q_sheets : Nat} {q_marsh : Nat} {q_oldest : Nat} {q_youngest : Nat} {q_weight : Nat} {q_chance : Nat} {q_digs : Nat} {q_draft : Nat} {q_isKept : Nat} {s_trace : Int64} {s_typed : Int32} {s_earliest : Int32} {s_latest : Int32} {s_firstYear : Int32} {s_rings : Int32} {s_knowns : Nat → Int32} {s_tune : Nat → Int32} {s_known : Nat → Int32} {x1 : Int32} {x2 : Int32} {o_r : Int32} {r85 : (Int32) → (Int32) → (Int32) → (Int32) → Option ((Int32))} (hr85 : ∀ (x3 : Int32) (x4 : Int32) (x5 : Int32) (x6 : Int32), r85 x3 x4 x5 x6 = some o_r → ∀ (H : Heap) (locs : List Loc), va_P D vwCl (w_X12_next a0 q_knowns q_tune q_known q_text q_depths q_far q_books q_told q_years q_months q_ring q_woods q_ends q_wood q_sheets q_marsh q_oldest q_youngest q_weight q_chance q_digs q_draft q_isKept cA s_trace s_typed s_earliest s_latest s_firstYear s_rings s_knowns s_tune s_known) H → va_D A (w_X12_next a0 q_knowns q_tune q_known q_text q_depths q_far q_books q_told q_years q_months q_ring q_woods q_ends q_wood q_sheets q_marsh q_oldest q_youngest q_weight q_chance q_digs q_draft q_isKept cA s_trace s_typed s_earliest s_latest s_firstYear s_rings s_knowns s_tune s_known) → va_S A s.heap H locs → ∀ ls : Array Slot, lv_has ls 8 [(0, .ref a0), (1, .int x1), (2, .int x2), (3, .int x3), (4, .int x4), (5, .int x5), (6, .int x6)] → W p l e rm_X12_next s m args below meth c H locs 0 0 (MQ below (CQ D (some (.int o_r)) (w_X12_next a0 q_knowns q_tune q_known q_text q_depths q_far q_books q_told q_years q_months q_ring q_woods q_ends q_wood q_sheets q_marsh q_oldest q_youngest q_weight q_chance q_digs q_draft q_isKept cA s_trace s_typed s_earliest s_latest s_firstYear s_rings s_knowns s_tune s_known) A) args s 0 0 A) (F0 m 85 ls [])) : ∀ (x3 : Int32) (x4 : Int32) (x6 : Int32) (z0 : Int32) (z1 : Int32), f_X12_next_152 r85 s_knowns s_tune s_known x1 x2 x3 x4 x6 z0 z1 = some o_r → ∀ (H : Heap) (locs : List Loc), va_P D vwCl (w_X12_next a0 q_knowns q_tune q_known q_text q_depths q_far q_books q_told q_years q_months q_ring q_woods q_ends q_wood q_sheets q_marsh q_oldest q_youngest q_weight q_chance q_digs q_draft q_isKept cA s_trace s_typed s_earliest s_latest s_firstYear s_rings s_knowns s_tune s_known) H → va_D A (w_X12_next a0 q_knowns q_tune q_known q_text q_depths q_far q_books q_told q_years q_months q_ring q_woods q_ends q_wood q_sheets q_marsh q_oldest q_youngest q_weight q_chance q_digs q_draft q_isKept cA s_trace s_typed s_earliest s_latest s_firstYear s_rings s_knowns s_tune s_known) → va_S A s.heap H locs → ∀ ls : Array Slot, lv_has ls 8 [(0, .ref a0), (1, .int x1), (2, .int x2), (3, .int x3), (4, .int x4), (6, .int x6)] → W p l e rm_X12_next s m args below meth c H locs 0 0 (MQ below (CQ D (some (.int o_r)) (w_X12_next a0 q_knowns q_tune q_known q_text q_depths q_far q_books q_told q_years q_months q_ring q_woods q_ends q_wood q_sheets q_marsh q_oldest q_youngest q_weight q_chance q_digs q_draft q_isKept cA s_trace s_typed s_earliest s_latest s_firstYear s_rings s_knowns s_tune s_known) A) args s 0 0 A) (F0 m 152 ls [.int z1, .int z0]) := by
  obtain ⟨hx, hb, hml, hown, hts, hr, hlocks, hX⟩ := C0
  have hK := hX.1
  have hN := hX.2
  intro x3 x4 x6 z0 z1 hf H locs hP hD hS ls hl
  unfold f_X12_next_152 at hf
  refine lv_iadd hx hb dX12_next_152 ?_
  refine lv_topi (fun x5_1 ex5_1 => ?_)
  have hf := plt_e ex5_1 hf
  refine lv_istore (lv' := [(5, .int x5_1), (0, .ref a0), (1, .int x1), (2, .int x2), (3, .int x3), (4, .int x4), (6, .int x6)]) hx hb dX12_next_153 hl (by decide) rfl (fun ls hl => ?_)
  obtain ⟨x6_2, ex6_2⟩ : ∃ z : Int32, z = x6 + (1 : Int32) := ⟨_, rfl⟩
  have hf := plt_e ex6_2 hf
  refine lv_iinc (v := x6_2) (lv' := [(6, .int x6_2), (5, .int x5_1), (0, .ref a0), (1, .int x1), (2, .int x2), (3, .int x3), (4, .int x4)]) hx hb dX12_next_155 hl (k := 6) rfl (by rw [ex6_2]; rfl) (by decide) rfl (fun ls hl => ?_)
  refine lv_goto (tgt := 85) hx hb dX12_next_158 (by decide) ?_
  exact hr85 x3 x4 x5_1 x6_2 hf _ _ hP hD hS ls (lv_sub hl [2, 3, 4, 5, 6, 1, 0] rfl)

def f_X12_next_151 (r85 : (Int32) → (Int32) → (Int32) → (Int32) → Option ((Int32))) (s_knowns : Nat → Int32) (s_tune : Nat → Int32) (s_known : Nat → Int32) (x1 : Int32) (x2 : Int32) (x3 : Int32) (x4 : Int32) (x6 : Int32) (z0 : Int32) : Option ((Int32)) :=
  f_X12_next_152 r85 s_knowns s_tune s_known x1 x2 x3 x4 x6 z0 (0 : Int32)

set_option maxRecDepth 100000 in
set_option maxHeartbeats 4000000 in
theorem k_X12_next_151 {p : Program} {l : Launch} {e : Env} {s : State} {m : MethodId} {args : Array Value} {below : List Frame} {meth : Method} {c : Code} {A : Nat → Prop} {D : va_G} {cA : Nat → ClassId} (C0 : MX p s m args meth c cX12_next 8 wsX12_next RX12 (some .int) D cA) (hA : ∀ q, s.heap.size ≤ q → A q) {a0 : Nat} {q_knowns : Nat} {q_tune : Nat} {q_known : Nat} {q_text : Nat} {q_depths : Nat} {q_far : Nat} {q_books : Nat} {q_told : Nat} {q_years : Nat} {q_months : Nat} {q_ring : Nat} {q_woods : Nat} {q_ends : Nat} {q_wood : Nat} {q_sheets : Nat} {q_marsh : Nat} {q_oldest : Nat} {q_youngest : Nat} {q_weight : Nat} {q_chance : Nat} {q_digs : Nat} {q_draft : Nat} {q_isKept : Nat} {s_trace : Int64} {s_typed : Int32} {s_earliest : Int32} {s_latest : Int32} {s_firstYear : Int32} {s_rings : Int32} {s_knowns : Nat → Int32} {s_tune : Nat → Int32} {s_known : Nat → Int32} {x1 : Int32} {x2 : Int32} {o_r : Int32} {r85 : (Int32) → (Int32) → (Int32) → (Int32) → Option ((Int32))} (hr85 : ∀ (x3 : Int32) (x4 : Int32) (x5 : Int32) (x6 : Int32), r85 x3 x4 x5 x6 = some o_r → ∀ (H : Heap) (locs : List Loc), va_P D vwCl (w_X12_next a0 q_knowns q_tune q_known q_text q_depths q_far q_books q_told q_years q_months q_ring q_woods q_ends q_wood q_sheets q_marsh q_oldest q_youngest q_weight q_chance q_digs q_draft q_isKept cA s_trace s_typed s_earliest s_latest s_firstYear s_rings s_knowns s_tune s_known) H → va_D A (w_X12_next a0 q_knowns q_tune q_known q_text q_depths q_far q_books q_told q_years q_months q_ring q_woods q_ends q_wood q_sheets q_marsh q_oldest q_youngest q_weight q_chance q_digs q_draft q_isKept cA s_trace s_typed s_earliest s_latest s_firstYear s_rings s_knowns s_tune s_known) → va_S A s.heap H locs → ∀ ls : Array Slot, lv_has ls 8 [(0, .ref a0), (1, .int x1), (2, .int x2), (3, .int x3), (4, .int x4), (5, .int x5), (6, .int x6)] → W p l e rm_X12_next s m args below meth c H locs 0 0 (MQ below (CQ D (some (.int o_r)) (w_X12_next a0 q_knowns q_tune q_known q_text q_depths q_far q_books q_told q_years q_months q_ring q_woods q_ends q_wood q_sheets q_marsh q_oldest q_youngest q_weight q_chance q_digs q_draft q_isKept cA s_trace s_typed s_earliest s_latest s_firstYear s_rings s_knowns s_tune s_known) A) args s 0 0 A) (F0 m 85 ls [])) : ∀ (x3 : Int32) (x4 : Int32) (x6 : Int32) (z0 : Int32), f_X12_next_151 r85 s_knowns s_tune s_known x1 x2 x3 x4 x6 z0 = some o_r → ∀ (H : Heap) (locs : List Loc), va_P D vwCl (w_X12_next a0 q_knowns q_tune q_known q_text q_depths q_far q_books q_told q_years q_months q_ring q_woods q_ends q_wood q_sheets q_marsh q_oldest q_youngest q_weight q_chance q_digs q_draft q_isKept cA s_trace s_typed s_earliest s_latest s_firstYear s_rings s_knowns s_tune s_known) H → va_D A (w_X12_next a0 q_knowns q_tune q_known q_text q_depths q_far q_books q_told q_years q_months q_ring q_woods q_ends q_wood q_sheets q_marsh q_oldest q_youngest q_weight q_chance q_digs q_draft q_isKept cA s_trace s_typed s_earliest s_latest s_firstYear s_rings s_knowns s_tune s_known) → va_S A s.heap H locs → ∀ ls : Array Slot, lv_has ls 8 [(0, .ref a0), (1, .int x1), (2, .int x2), (3, .int x3), (4, .int x4), (6, .int x6)] → W p l e rm_X12_next s m args below meth c H locs 0 0 (MQ below (CQ D (some (.int o_r)) (w_X12_next a0 q_knowns q_tune q_known q_text q_depths q_far q_books q_told q_years q_months q_ring q_woods q_ends q_wood q_sheets q_marsh q_oldest q_youngest q_weight q_chance q_digs q_draft q_isKept cA s_trace s_typed s_earliest s_latest s_firstYear s_rings s_knowns s_tune s_known) A) args s 0 0 A) (F0 m 151 ls [.int z0]) := by
  obtain ⟨hx, hb, hml, hown, hts, hr, hlocks, hX⟩ := C0
  have hK := hX.1
  have hN := hX.2
  intro x3 x4 x6 z0 hf H locs hP hD hS ls hl
  unfold f_X12_next_151 at hf
  refine lv_iconst (v := (0 : Int32)) hx hb dX12_next_151 (by decide) ?_
  exact k_X12_next_152 ⟨hx, hb, hml, hown, hts, hr, hlocks, hX⟩ hA hr85 x3 x4 x6 z0 (0 : Int32) hf _ _ hP hD hS ls (lv_sub hl [0, 1, 2, 3, 4, 5] rfl)

def f_X12_next_128 (r85 : (Int32) → (Int32) → (Int32) → (Int32) → Option ((Int32))) (s_knowns : Nat → Int32) (s_tune : Nat → Int32) (s_known : Nat → Int32) (x1 : Int32) (x2 : Int32) (x3 : Int32) (x5 : Int32) (x6 : Int32) (x7 : Int32) (z0 : Int32) (z1 : Int32) : Option ((Int32)) :=
  plt ((z0 + z1) : Int32) (fun x4_1 => (
  pbr (x7 ≤ x3)
    (f_X12_next_151 r85 s_knowns s_tune s_known x1 x2 x3 x4_1 x6 x5)
    (pbr ((x3 + x1) < x7)
      (f_X12_next_151 r85 s_knowns s_tune s_known x1 x2 x3 x4_1 x6 x5)
      (f_X12_next_152 r85 s_knowns s_tune s_known x1 x2 x3 x4_1 x6 x5 (1 : Int32)))))

set_option maxRecDepth 100000 in
set_option maxHeartbeats 4000000 in
theorem k_X12_next_128 {p : Program} {l : Launch} {e : Env} {s : State} {m : MethodId} {args : Array Value} {below : List Frame} {meth : Method} {c : Code} {A : Nat → Prop} {D : va_G} {cA : Nat → ClassId} (C0 : MX p s m args meth c cX12_next 8 wsX12_next RX12 (some .int) D cA) (hA : ∀ q, s.heap.size ≤ q → A q) {a0 : Nat} {q_knowns : Nat} {q_tune : Nat} {q_known : Nat} {q_text : Nat} {q_depths : Nat} {q_far : Nat} {q_books : Nat} {q_told : Nat} {q_years : Nat} {q_months : Nat} {q_ring : Nat} {q_woods : Nat} {q_ends : Nat} {q_wood : Nat} {q_sheets : Nat} {q_marsh : Nat} {q_oldest : Nat} {q_youngest : Nat} {q_weight : Nat} {q_chance : Nat} {q_digs : Nat} {q_draft : Nat} {q_isKept : Nat} {s_trace : Int64} {s_typed : Int32} {s_earliest : Int32} {s_latest : Int32} {s_firstYear : Int32} {s_rings : Int32} {s_knowns : Nat → Int32} {s_tune : Nat → Int32} {s_known : Nat → Int32} {x1 : Int32} {x2 : Int32} {o_r : Int32} {r85 : (Int32) → (Int32) → (Int32) → (Int32) → Option ((Int32))} (hr85 : ∀ (x3 : Int32) (x4 : Int32) (x5 : Int32) (x6 : Int32), r85 x3 x4 x5 x6 = some o_r → ∀ (H : Heap) (locs : List Loc), va_P D vwCl (w_X12_next a0 q_knowns q_tune q_known q_text q_depths q_far q_books q_told q_years q_months q_ring q_woods q_ends q_wood q_sheets q_marsh q_oldest q_youngest q_weight q_chance q_digs q_draft q_isKept cA s_trace s_typed s_earliest s_latest s_firstYear s_rings s_knowns s_tune s_known) H → va_D A (w_X12_next a0 q_knowns q_tune q_known q_text q_depths q_far q_books q_told q_years q_months q_ring q_woods q_ends q_wood q_sheets q_marsh q_oldest q_youngest q_weight q_chance q_digs q_draft q_isKept cA s_trace s_typed s_earliest s_latest s_firstYear s_rings s_knowns s_tune s_known) → va_S A s.heap H locs → ∀ ls : Array Slot, lv_has ls 8 [(0, .ref a0), (1, .int x1), (2, .int x2), (3, .int x3), (4, .int x4), (5, .int x5), (6, .int x6)] → W p l e rm_X12_next s m args below meth c H locs 0 0 (MQ below (CQ D (some (.int o_r)) (w_X12_next a0 q_knowns q_tune q_known q_text q_depths q_far q_books q_told q_years q_months q_ring q_woods q_ends q_wood q_sheets q_marsh q_oldest q_youngest q_weight q_chance q_digs q_draft q_isKept cA s_trace s_typed s_earliest s_latest s_firstYear s_rings s_knowns s_tune s_known) A) args s 0 0 A) (F0 m 85 ls [])) : ∀ (x3 : Int32) (x5 : Int32) (x6 : Int32) (x7 : Int32) (z0 : Int32) (z1 : Int32), f_X12_next_128 r85 s_knowns s_tune s_known x1 x2 x3 x5 x6 x7 z0 z1 = some o_r → ∀ (H : Heap) (locs : List Loc), va_P D vwCl (w_X12_next a0 q_knowns q_tune q_known q_text q_depths q_far q_books q_told q_years q_months q_ring q_woods q_ends q_wood q_sheets q_marsh q_oldest q_youngest q_weight q_chance q_digs q_draft q_isKept cA s_trace s_typed s_earliest s_latest s_firstYear s_rings s_knowns s_tune s_known) H → va_D A (w_X12_next a0 q_knowns q_tune q_known q_text q_depths q_far q_books q_told q_years q_months q_ring q_woods q_ends q_wood q_sheets q_marsh q_oldest q_youngest q_weight q_chance q_digs q_draft q_isKept cA s_trace s_typed s_earliest s_latest s_firstYear s_rings s_knowns s_tune s_known) → va_S A s.heap H locs → ∀ ls : Array Slot, lv_has ls 8 [(0, .ref a0), (1, .int x1), (2, .int x2), (3, .int x3), (5, .int x5), (6, .int x6), (7, .int x7)] → W p l e rm_X12_next s m args below meth c H locs 0 0 (MQ below (CQ D (some (.int o_r)) (w_X12_next a0 q_knowns q_tune q_known q_text q_depths q_far q_books q_told q_years q_months q_ring q_woods q_ends q_wood q_sheets q_marsh q_oldest q_youngest q_weight q_chance q_digs q_draft q_isKept cA s_trace s_typed s_earliest s_latest s_firstYear s_rings s_knowns s_tune s_known) A) args s 0 0 A) (F0 m 128 ls [.int z1, .int z0]) := by
  obtain ⟨hx, hb, hml, hown, hts, hr, hlocks, hX⟩ := C0
  have hK := hX.1
  have hN := hX.2
  intro x3 x5 x6 x7 z0 z1 hf H locs hP hD hS ls hl
  unfold f_X12_next_128 at hf
  refine lv_iadd hx hb dX12_next_128 ?_
  refine lv_topi (fun x4_1 ex4_1 => ?_)
  have hf := plt_e ex4_1 hf
  refine lv_istore (lv' := [(4, .int x4_1), (0, .ref a0), (1, .int x1), (2, .int x2), (3, .int x3), (5, .int x5), (6, .int x6), (7, .int x7)]) hx hb dX12_next_129 hl (by decide) rfl (fun ls hl => ?_)
  refine lv_iload hx hb dX12_next_131 (lv_at hl 5 rfl) ?_
  refine lv_iload hx hb dX12_next_133 (lv_at hl 7 rfl) ?_
  refine lv_iload_n hx hb dX12_next_135 rfl (lv_at hl 4 rfl) ?_
  refine lv_icmp_le (tgt := 151) hx hb dX12_next_136 (by decide) (fun c_2 => ?_) (fun c_2 => ?_)
  · have hf := pbr_t c_2 hf
    exact k_X12_next_151 ⟨hx, hb, hml, hown, hts, hr, hlocks, hX⟩ hA hr85 x3 x4_1 x6 x5 hf _ _ hP hD hS ls (lv_sub hl [1, 2, 3, 4, 0, 6] rfl)
  have hf := pbr_f c_2 hf
  refine lv_iload hx hb dX12_next_139 (lv_at hl 7 rfl) ?_
  refine lv_iload_n hx hb dX12_next_141 rfl (lv_at hl 4 rfl) ?_
  refine lv_iload_n hx hb dX12_next_142 rfl (lv_at hl 2 rfl) ?_
  refine lv_iadd hx hb dX12_next_143 ?_
  refine lv_icmp_gt (tgt := 151) hx hb dX12_next_144 (by decide) (fun c_3 => ?_) (fun c_3 => ?_)
  · have hf := pbr_t c_3 hf
    exact k_X12_next_151 ⟨hx, hb, hml, hown, hts, hr, hlocks, hX⟩ hA hr85 x3 x4_1 x6 x5 hf _ _ hP hD hS ls (lv_sub hl [1, 2, 3, 4, 0, 6] rfl)
  have hf := pbr_f c_3 hf
  refine lv_iconst (v := (1 : Int32)) hx hb dX12_next_147 (by decide) ?_
  refine lv_goto (tgt := 152) hx hb dX12_next_148 (by decide) ?_
  exact k_X12_next_152 ⟨hx, hb, hml, hown, hts, hr, hlocks, hX⟩ hA hr85 x3 x4_1 x6 x5 (1 : Int32) hf _ _ hP hD hS ls (lv_sub hl [1, 2, 3, 4, 0, 6] rfl)

def f_X12_next_85 (s_knowns : Nat → Int32) (s_tune : Nat → Int32) (s_known : Nat → Int32) (x1 : Int32) (x2 : Int32) : Nat → (Int32) → (Int32) → (Int32) → (Int32) → Option ((Int32))
  | 0, _, _, _, _ => none
  | k + 1, x3, x4, x5, x6 =>
    pbr ((s_knowns (0 : Int32).toNatClampNeg) ≤ x6)
      (pbr (x4 = 0)
        (some ((1 : Int32)))
        (pcl (f_X12_inLeast x5.toInt64 x4.toInt64 x2) (fun r_3 => (
        some (r_3.toInt32)))))
      (pgd (pin x6 48) (
      pgd (pin (x6 - (1 : Int32)) 48) (
      plt (((s_known x6.toNatClampNeg) - (s_known (x6 - (1 : Int32)).toNatClampNeg)) : Int32) (fun x7_7 => (
      pbr (x7_7 ≤ x3)
        (f_X12_next_128 (f_X12_next_85 s_knowns s_tune s_known x1 x2 k) s_knowns s_tune s_known x1 x2 x3 x5 x6 x7_7 x4 (0 : Int32))
        (f_X12_next_128 (f_X12_next_85 s_knowns s_tune s_known x1 x2 k) s_knowns s_tune s_known x1 x2 x3 x5 x6 x7_7 x4 (1 : Int32)))))))

set_option maxRecDepth 100000 in
set_option maxHeartbeats 4000000 in
theorem k_X12_next_85 {p : Program} {l : Launch} {e : Env} {s : State} {m : MethodId} {args : Array Value} {below : List Frame} {meth : Method} {c : Code} {A : Nat → Prop} {D : va_G} {cA : Nat → ClassId} (C0 : MX p s m args meth c cX12_next 8 wsX12_next RX12 (some .int) D cA) (hA : ∀ q, s.heap.size ≤ q → A q) {a0 : Nat} {q_knowns : Nat} {q_tune : Nat} {q_known : Nat} {q_text : Nat} {q_depths : Nat} {q_far : Nat} {q_books : Nat} {q_told : Nat} {q_years : Nat} {q_months : Nat} {q_ring : Nat} {q_woods : Nat} {q_ends : Nat} {q_wood : Nat} {q_sheets : Nat} {q_marsh : Nat} {q_oldest : Nat} {q_youngest : Nat} {q_weight : Nat} {q_chance : Nat} {q_digs : Nat} {q_draft : Nat} {q_isKept : Nat} {s_trace : Int64} {s_typed : Int32} {s_earliest : Int32} {s_latest : Int32} {s_firstYear : Int32} {s_rings : Int32} {s_knowns : Nat → Int32} {s_tune : Nat → Int32} {s_known : Nat → Int32} {x1 : Int32} {x2 : Int32} {o_r : Int32} : ∀ (k : Nat) (x3 : Int32) (x4 : Int32) (x5 : Int32) (x6 : Int32), f_X12_next_85 s_knowns s_tune s_known x1 x2 k x3 x4 x5 x6 = some o_r → ∀ (H : Heap) (locs : List Loc), va_P D vwCl (w_X12_next a0 q_knowns q_tune q_known q_text q_depths q_far q_books q_told q_years q_months q_ring q_woods q_ends q_wood q_sheets q_marsh q_oldest q_youngest q_weight q_chance q_digs q_draft q_isKept cA s_trace s_typed s_earliest s_latest s_firstYear s_rings s_knowns s_tune s_known) H → va_D A (w_X12_next a0 q_knowns q_tune q_known q_text q_depths q_far q_books q_told q_years q_months q_ring q_woods q_ends q_wood q_sheets q_marsh q_oldest q_youngest q_weight q_chance q_digs q_draft q_isKept cA s_trace s_typed s_earliest s_latest s_firstYear s_rings s_knowns s_tune s_known) → va_S A s.heap H locs → ∀ ls : Array Slot, lv_has ls 8 [(0, .ref a0), (1, .int x1), (2, .int x2), (3, .int x3), (4, .int x4), (5, .int x5), (6, .int x6)] → W p l e rm_X12_next s m args below meth c H locs 0 0 (MQ below (CQ D (some (.int o_r)) (w_X12_next a0 q_knowns q_tune q_known q_text q_depths q_far q_books q_told q_years q_months q_ring q_woods q_ends q_wood q_sheets q_marsh q_oldest q_youngest q_weight q_chance q_digs q_draft q_isKept cA s_trace s_typed s_earliest s_latest s_firstYear s_rings s_knowns s_tune s_known) A) args s 0 0 A) (F0 m 85 ls []) := by
  obtain ⟨hx, hb, hml, hown, hts, hr, hlocks, hX⟩ := C0
  have hK := hX.1
  have hN := hX.2
  intro k
  induction k with
  | zero =>
    intro x3 x4 x5 x6 hf
    cases hf
  | succ k ih =>
    intro x3 x4 x5 x6 hf H locs hP hD hS ls hl
    rw [f_X12_next_85] at hf
    refine lv_iload hx hb dX12_next_85 (lv_at hl 6 rfl) ?_
    refine lv_aload_n hx hb dX12_next_87 rfl (lv_at hl 0 rfl) ?_
    refine va_get (D := D) (ci := 12) (v := .ref q_knowns) (C := RX12) (T := TX12) (N := 29) hx hb hts hn_X12_next_X12 hown hK hP 0 rfl rfl 22 (by decide) (hts _ hw_X12_next_f59) (fun _ h9 => h9) rfl dX12_next_88 ?_
    refine lv_iconst (v := (0 : Int32)) hx hb dX12_next_91 (by decide) ?_
    refine va_iald hx hb hK hP 1 1 rfl rfl (show pin (0 : Int32) 3 by decide +kernel) dX12_next_92 ?_
    refine lv_icmp_ge (tgt := 161) hx hb dX12_next_93 (by decide) (fun c_1 => ?_) (fun c_1 => ?_)
    · have hf := pbr_t c_1 hf
      refine lv_iload hx hb dX12_next_161 (lv_at hl 4 rfl) ?_
      refine lv_if_ne (tgt := 170) hx hb dX12_next_163 (by decide) (fun c_2 => ?_) (fun c_2 => ?_)
      · have hf := pbr_f c_2 hf
        refine lv_iload hx hb dX12_next_170 (lv_at hl 5 rfl) ?_
        refine lv_i2l hx hb dX12_next_172 rfl ?_
        refine lv_iload hx hb dX12_next_173 (lv_at hl 4 rfl) ?_
        refine lv_i2l hx hb dX12_next_175 rfl ?_
        refine lv_iload_n hx hb dX12_next_176 rfl (lv_at hl 2 rfl) ?_
        obtain ⟨r_3, hc_4, hf⟩ := pcl_e hf
        refine m_callS2 (As := [.long x5.toInt64, .long x4.toInt64, .int x2]) (rest := []) ⟨hx, hb, hml, hown, hts⟩ hX (ct_X12_inLeast l D cA x5.toInt64 x4.toInt64 x2 r_3 hc_4) (va_cwS 3 hts gX12_next_X12_inLeast rfl rfl rfl (by decide +kernel) ⟨Nat.le_of_ble_eq_true rfl, Nat.le_of_ble_eq_true rfl⟩) hP hD hS hA [] [0, 1, 2, 3] 4 (by decide) rfl rfl (WS' := (w_X12_next a0 q_knowns q_tune q_known q_text q_depths q_far q_books q_told q_years q_months q_ring q_woods q_ends q_wood q_sheets q_marsh q_oldest q_youngest q_weight q_chance q_digs q_draft q_isKept cA s_trace s_typed s_earliest s_latest s_firstYear s_rings s_knowns s_tune s_known)) (WR := [(a0, .inr (12, [.long s_trace, .ref q_text, .int s_typed, .ref q_depths, .ref q_tune, .ref q_far, .ref q_books, .ref q_told, .int s_earliest, .int s_latest, .ref q_years, .ref q_months, .int s_firstYear, .int s_rings, .ref q_ring, .ref q_woods, .ref q_ends, .ref q_wood, .ref q_sheets, .ref q_marsh, .ref q_oldest, .ref q_youngest, .ref q_knowns, .ref q_known, .ref q_weight, .ref q_chance, .ref q_digs, .ref q_draft, .ref q_isKept])), (q_knowns, .inl (cA 1, 3, .inl s_knowns)), (q_tune, .inl (cA 1, 3, .inl s_tune)), (q_known, .inl (cA 1, 48, .inl s_known))]) rfl rfl rfl rfl (by decide) (by decide) rfl hl.1 rfl (st' := [.long r_3]) rfl (Nat.le_of_ble_eq_true rfl) ⟨Nat.zero_le _, Nat.zero_le _⟩ dX12_next_177 (fun H locs hP hD hS => ?_)
        refine lv_l2i hx hb dX12_next_180 rfl ?_
        obtain rfl := pe1 hf
        exact m_iret hx hb hr hlocks hP hS dX12_next_181
      have hf := pbr_t c_2 hf
      refine lv_iconst (v := (1 : Int32)) hx hb dX12_next_166 (by decide) ?_
      refine lv_goto (tgt := 181) hx hb dX12_next_167 (by decide) ?_
      obtain rfl := pe1 hf
      exact m_iret hx hb hr hlocks hP hS dX12_next_181
    have hf := pbr_f c_1 hf
    refine lv_aload_n hx hb dX12_next_96 rfl (lv_at hl 0 rfl) ?_
    refine va_get (D := D) (ci := 12) (v := .ref q_known) (C := RX12) (T := TX12) (N := 29) hx hb hts hn_X12_next_X12 hown hK hP 0 rfl rfl 23 (by decide) (hts _ hw_X12_next_f62) (fun _ h9 => h9) rfl dX12_next_97 ?_
    refine lv_iload hx hb dX12_next_100 (lv_at hl 6 rfl) ?_
    obtain ⟨g_5, hf⟩ := pgd_e hf
    refine va_iald hx hb hK hP 3 1 rfl rfl g_5 dX12_next_102 ?_
    refine lv_aload_n hx hb dX12_next_103 rfl (lv_at hl 0 rfl) ?_
    refine va_get (D := D) (ci := 12) (v := .ref q_known) (C := RX12) (T := TX12) (N := 29) hx hb hts hn_X12_next_X12 hown hK hP 0 rfl rfl 23 (by decide) (hts _ hw_X12_next_f62) (fun _ h9 => h9) rfl dX12_next_104 ?_
    refine lv_iload hx hb dX12_next_107 (lv_at hl 6 rfl) ?_
    refine lv_iconst (v := (1 : Int32)) hx hb dX12_next_109 (by decide) ?_
    refine lv_isub hx hb dX12_next_110 ?_
    obtain ⟨g_6, hf⟩ := pgd_e hf
    refine va_iald hx hb hK hP 3 1 rfl rfl g_6 dX12_next_111 ?_
    refine lv_isub hx hb dX12_next_112 ?_
    refine lv_topi (fun x7_7 ex7_7 => ?_)
    have hf := plt_e ex7_7 hf
    refine lv_istore (lv' := [(7, .int x7_7), (0, .ref a0), (1, .int x1), (2, .int x2), (3, .int x3), (4, .int x4), (5, .int x5), (6, .int x6)]) hx hb dX12_next_113 hl (by decide) rfl (fun ls hl => ?_)
    refine lv_iload hx hb dX12_next_115 (lv_at hl 5 rfl) ?_
    refine lv_iload hx hb dX12_next_117 (lv_at hl 0 rfl) ?_
    refine lv_iload_n hx hb dX12_next_119 rfl (lv_at hl 4 rfl) ?_
    refine lv_icmp_le (tgt := 127) hx hb dX12_next_120 (by decide) (fun c_8 => ?_) (fun c_8 => ?_)
    · have hf := pbr_t c_8 hf
      refine lv_iconst (v := (0 : Int32)) hx hb dX12_next_127 (by decide) ?_
      exact k_X12_next_128 ⟨hx, hb, hml, hown, hts, hr, hlocks, hX⟩ hA ih x3 x5 x6 x7_7 x4 (0 : Int32) hf _ _ hP hD hS ls (lv_sub hl [1, 2, 3, 4, 6, 7, 0] rfl)
    have hf := pbr_f c_8 hf
    refine lv_iconst (v := (1 : Int32)) hx hb dX12_next_123 (by decide) ?_
    refine lv_goto (tgt := 128) hx hb dX12_next_124 (by decide) ?_
    exact k_X12_next_128 ⟨hx, hb, hml, hown, hts, hr, hlocks, hX⟩ hA ih x3 x5 x6 x7_7 x4 (1 : Int32) hf _ _ hP hD hS ls (lv_sub hl [1, 2, 3, 4, 6, 7, 0] rfl)

def f_X12_next (x1 : Int32) (x2 : Int32) (s_knowns : Nat → Int32) (s_tune : Nat → Int32) (s_known : Nat → Int32) : Option ((Int32)) :=
  pcl (f_X12_in x1 (0 : Int32) (9999 : Int32)) (fun r_1 => (
  pbr (r_1 = 0)
    (some ((-1000000 : Int32)))
    (pcl (f_X12_in x2 (0 : Int32) (1 : Int32)) (fun r_4 => (
    pbr (r_4 = 0)
      (some ((-1000000 : Int32)))
      (pbr ((s_knowns (0 : Int32).toNatClampNeg) < (2 : Int32))
        (some ((-1000000 : Int32)))
        (pgd (pin ((s_knowns (0 : Int32).toNatClampNeg) - (1 : Int32)) 48) (
        pbr ((s_known ((s_knowns (0 : Int32).toNatClampNeg) - (1 : Int32)).toNatClampNeg) ≤ (s_tune (2 : Int32).toNatClampNeg))
          (plt (((s_tune (2 : Int32).toNatClampNeg) - (s_known ((s_knowns (0 : Int32).toNatClampNeg) - (1 : Int32)).toNatClampNeg)) : Int32) (fun x3_10 => (
          f_X12_next_85 s_knowns s_tune s_known x1 x2 FU x3_10 (0 : Int32) (0 : Int32) (1 : Int32))))
          (some ((-1000000 : Int32)))))))))))

set_option maxRecDepth 100000 in
set_option maxHeartbeats 4000000 in
theorem ct_X12_next (l : Launch) (D : va_G) (cA : Nat → ClassId) (x1 : Int32) (x2 : Int32) (a0 : Nat) (q_knowns : Nat) (q_tune : Nat) (q_known : Nat) (q_text : Nat) (q_depths : Nat) (q_far : Nat) (q_books : Nat) (q_told : Nat) (q_years : Nat) (q_months : Nat) (q_ring : Nat) (q_woods : Nat) (q_ends : Nat) (q_wood : Nat) (q_sheets : Nat) (q_marsh : Nat) (q_oldest : Nat) (q_youngest : Nat) (q_weight : Nat) (q_chance : Nat) (q_digs : Nat) (q_draft : Nat) (q_isKept : Nat) (s_trace : Int64) (s_typed : Int32) (s_earliest : Int32) (s_latest : Int32) (s_firstYear : Int32) (s_rings : Int32) (s_knowns : Nat → Int32) (s_tune : Nat → Int32) (s_known : Nat → Int32) (o_r : Int32) (hf : f_X12_next x1 x2 s_knowns s_tune s_known = some o_r) : CT l yX12_next wsX12_next rm_X12_next D cA [.ref a0, .int x1, .int x2] (w_X12_next a0 q_knowns q_tune q_known q_text q_depths q_far q_books q_told q_years q_months q_ring q_woods q_ends q_wood q_sheets q_marsh q_oldest q_youngest q_weight q_chance q_digs q_draft q_isKept cA s_trace s_typed s_earliest s_latest s_firstYear s_rings s_knowns s_tune s_known) (w_X12_next a0 q_knowns q_tune q_known q_text q_depths q_far q_books q_told q_years q_months q_ring q_woods q_ends q_wood q_sheets q_marsh q_oldest q_youngest q_weight q_chance q_digs q_draft q_isKept cA s_trace s_typed s_earliest s_latest s_firstYear s_rings s_knowns s_tune s_known) (some (.int o_r)) := by
  refine CT.ofW (cc := cX12_next) (maxL := 8) (ret := (some .int)) (by decide +kernel) rfl (Nat.le_of_ble_eq_true rfl) ?_
  intro p e s m below meth c A C0 hA hP hD ls hl
  have C0 : MX p s m [.ref a0, .int x1, .int x2].toArray meth c cX12_next 8 wsX12_next RX12 (some .int) D cA := C0
  have hl : lv_has ls 8 [(0, .ref a0), (1, .int x1), (2, .int x2)] := hl
  obtain ⟨hx, hb, hml, hown, hts, hr, hlocks, hX⟩ := id C0
  have hK := hX.1
  have hN := hX.2
  have hS : va_S A s.heap s.heap [] := va_S.rf
  unfold f_X12_next at hf
  refine lv_iload_n hx hb dX12_next_0 rfl (lv_at hl 1 rfl) ?_
  refine lv_iconst (v := (0 : Int32)) hx hb dX12_next_1 (by decide) ?_
  refine lv_sipush (v := (9999 : Int32)) hx hb dX12_next_2 (by decide) ?_
  obtain ⟨r_1, hc_2, hf⟩ := pcl_e hf
  refine m_callS2 (As := [.int x1, .int (0 : Int32), .int (9999 : Int32)]) (rest := []) ⟨hx, hb, hml, hown, hts⟩ hX (ct_X12_in l D cA x1 (0 : Int32) (9999 : Int32) r_1 hc_2) (va_cwS 3 hts gX12_next_X12_in rfl rfl rfl (by decide +kernel) ⟨Nat.le_of_ble_eq_true rfl, Nat.le_of_ble_eq_true rfl⟩) hP hD hS hA [] [0, 1, 2, 3] 4 (by decide) rfl rfl (WS' := (w_X12_next a0 q_knowns q_tune q_known q_text q_depths q_far q_books q_told q_years q_months q_ring q_woods q_ends q_wood q_sheets q_marsh q_oldest q_youngest q_weight q_chance q_digs q_draft q_isKept cA s_trace s_typed s_earliest s_latest s_firstYear s_rings s_knowns s_tune s_known)) (WR := [(a0, .inr (12, [.long s_trace, .ref q_text, .int s_typed, .ref q_depths, .ref q_tune, .ref q_far, .ref q_books, .ref q_told, .int s_earliest, .int s_latest, .ref q_years, .ref q_months, .int s_firstYear, .int s_rings, .ref q_ring, .ref q_woods, .ref q_ends, .ref q_wood, .ref q_sheets, .ref q_marsh, .ref q_oldest, .ref q_youngest, .ref q_knowns, .ref q_known, .ref q_weight, .ref q_chance, .ref q_digs, .ref q_draft, .ref q_isKept])), (q_knowns, .inl (cA 1, 3, .inl s_knowns)), (q_tune, .inl (cA 1, 3, .inl s_tune)), (q_known, .inl (cA 1, 48, .inl s_known))]) rfl rfl rfl rfl (by decide) (by decide) rfl hl.1 rfl (st' := [.int r_1]) rfl (Nat.le_of_ble_eq_true rfl) ⟨Nat.zero_le _, Nat.zero_le _⟩ dX12_next_5 (fun H locs hP hD hS => ?_)
  refine lv_if_eq (tgt := 52) hx hb dX12_next_8 (by decide) (fun c_3 => ?_) (fun c_3 => ?_)
  · have hf := pbr_t c_3 hf
    refine lv_ldc (v := (-1000000 : Int32)) hx hb hown (hts _ hw_X12_next_c122) dX12_next_52 ?_
    obtain rfl := pe1 hf
    exact m_iret hx hb hr hlocks hP hS dX12_next_54
  have hf := pbr_f c_3 hf
  refine lv_iload_n hx hb dX12_next_11 rfl (lv_at hl 2 rfl) ?_
  refine lv_iconst (v := (0 : Int32)) hx hb dX12_next_12 (by decide) ?_
  refine lv_iconst (v := (1 : Int32)) hx hb dX12_next_13 (by decide) ?_
  obtain ⟨r_4, hc_5, hf⟩ := pcl_e hf
  refine m_callS2 (As := [.int x2, .int (0 : Int32), .int (1 : Int32)]) (rest := []) ⟨hx, hb, hml, hown, hts⟩ hX (ct_X12_in l D cA x2 (0 : Int32) (1 : Int32) r_4 hc_5) (va_cwS 3 hts gX12_next_X12_in rfl rfl rfl (by decide +kernel) ⟨Nat.le_of_ble_eq_true rfl, Nat.le_of_ble_eq_true rfl⟩) hP hD hS hA [] [0, 1, 2, 3] 4 (by decide) rfl rfl (WS' := (w_X12_next a0 q_knowns q_tune q_known q_text q_depths q_far q_books q_told q_years q_months q_ring q_woods q_ends q_wood q_sheets q_marsh q_oldest q_youngest q_weight q_chance q_digs q_draft q_isKept cA s_trace s_typed s_earliest s_latest s_firstYear s_rings s_knowns s_tune s_known)) (WR := [(a0, .inr (12, [.long s_trace, .ref q_text, .int s_typed, .ref q_depths, .ref q_tune, .ref q_far, .ref q_books, .ref q_told, .int s_earliest, .int s_latest, .ref q_years, .ref q_months, .int s_firstYear, .int s_rings, .ref q_ring, .ref q_woods, .ref q_ends, .ref q_wood, .ref q_sheets, .ref q_marsh, .ref q_oldest, .ref q_youngest, .ref q_knowns, .ref q_known, .ref q_weight, .ref q_chance, .ref q_digs, .ref q_draft, .ref q_isKept])), (q_knowns, .inl (cA 1, 3, .inl s_knowns)), (q_tune, .inl (cA 1, 3, .inl s_tune)), (q_known, .inl (cA 1, 48, .inl s_known))]) rfl rfl rfl rfl (by decide) (by decide) rfl hl.1 rfl (st' := [.int r_4]) rfl (Nat.le_of_ble_eq_true rfl) ⟨Nat.zero_le _, Nat.zero_le _⟩ dX12_next_14 (fun H locs hP hD hS => ?_)
  refine lv_if_eq (tgt := 52) hx hb dX12_next_17 (by decide) (fun c_6 => ?_) (fun c_6 => ?_)
  · have hf := pbr_t c_6 hf
    refine lv_ldc (v := (-1000000 : Int32)) hx hb hown (hts _ hw_X12_next_c122) dX12_next_52 ?_
    obtain rfl := pe1 hf
    exact m_iret hx hb hr hlocks hP hS dX12_next_54
  have hf := pbr_f c_6 hf
  refine lv_aload_n hx hb dX12_next_20 rfl (lv_at hl 0 rfl) ?_
  refine va_get (D := D) (ci := 12) (v := .ref q_knowns) (C := RX12) (T := TX12) (N := 29) hx hb hts hn_X12_next_X12 hown hK hP 0 rfl rfl 22 (by decide) (hts _ hw_X12_next_f59) (fun _ h9 => h9) rfl dX12_next_21 ?_
  refine lv_iconst (v := (0 : Int32)) hx hb dX12_next_24 (by decide) ?_
  refine va_iald hx hb hK hP 1 1 rfl rfl (show pin (0 : Int32) 3 by decide +kernel) dX12_next_25 ?_
  refine lv_iconst (v := (2 : Int32)) hx hb dX12_next_26 (by decide) ?_
  refine lv_icmp_lt (tgt := 52) hx hb dX12_next_27 (by decide) (fun c_7 => ?_) (fun c_7 => ?_)
  · have hf := pbr_t c_7 hf
    refine lv_ldc (v := (-1000000 : Int32)) hx hb hown (hts _ hw_X12_next_c122) dX12_next_52 ?_
    obtain rfl := pe1 hf
    exact m_iret hx hb hr hlocks hP hS dX12_next_54
  have hf := pbr_f c_7 hf
  refine lv_aload_n hx hb dX12_next_30 rfl (lv_at hl 0 rfl) ?_
  refine va_get (D := D) (ci := 12) (v := .ref q_tune) (C := RX12) (T := TX12) (N := 29) hx hb hts hn_X12_next_X12 hown hK hP 0 rfl rfl 4 (by decide) (hts _ hw_X12_next_f17) (fun _ h9 => h9) rfl dX12_next_31 ?_
  refine lv_iconst (v := (2 : Int32)) hx hb dX12_next_34 (by decide) ?_
  refine va_iald hx hb hK hP 2 1 rfl rfl (show pin (2 : Int32) 3 by decide +kernel) dX12_next_35 ?_
  refine lv_aload_n hx hb dX12_next_36 rfl (lv_at hl 0 rfl) ?_
  refine va_get (D := D) (ci := 12) (v := .ref q_known) (C := RX12) (T := TX12) (N := 29) hx hb hts hn_X12_next_X12 hown hK hP 0 rfl rfl 23 (by decide) (hts _ hw_X12_next_f62) (fun _ h9 => h9) rfl dX12_next_37 ?_
  refine lv_aload_n hx hb dX12_next_40 rfl (lv_at hl 0 rfl) ?_
  refine va_get (D := D) (ci := 12) (v := .ref q_knowns) (C := RX12) (T := TX12) (N := 29) hx hb hts hn_X12_next_X12 hown hK hP 0 rfl rfl 22 (by decide) (hts _ hw_X12_next_f59) (fun _ h9 => h9) rfl dX12_next_41 ?_
  refine lv_iconst (v := (0 : Int32)) hx hb dX12_next_44 (by decide) ?_
  refine va_iald hx hb hK hP 1 1 rfl rfl (show pin (0 : Int32) 3 by decide +kernel) dX12_next_45 ?_
  refine lv_iconst (v := (1 : Int32)) hx hb dX12_next_46 (by decide) ?_
  refine lv_isub hx hb dX12_next_47 ?_
  obtain ⟨g_8, hf⟩ := pgd_e hf
  refine va_iald hx hb hK hP 3 1 rfl rfl g_8 dX12_next_48 ?_
  refine lv_icmp_ge (tgt := 55) hx hb dX12_next_49 (by decide) (fun c_9 => ?_) (fun c_9 => ?_)
  · have hf := pbr_t c_9 hf
    refine lv_aload_n hx hb dX12_next_55 rfl (lv_at hl 0 rfl) ?_
    refine va_get (D := D) (ci := 12) (v := .ref q_tune) (C := RX12) (T := TX12) (N := 29) hx hb hts hn_X12_next_X12 hown hK hP 0 rfl rfl 4 (by decide) (hts _ hw_X12_next_f17) (fun _ h9 => h9) rfl dX12_next_56 ?_
    refine lv_iconst (v := (2 : Int32)) hx hb dX12_next_59 (by decide) ?_
    refine va_iald hx hb hK hP 2 1 rfl rfl (show pin (2 : Int32) 3 by decide +kernel) dX12_next_60 ?_
    refine lv_aload_n hx hb dX12_next_61 rfl (lv_at hl 0 rfl) ?_
    refine va_get (D := D) (ci := 12) (v := .ref q_known) (C := RX12) (T := TX12) (N := 29) hx hb hts hn_X12_next_X12 hown hK hP 0 rfl rfl 23 (by decide) (hts _ hw_X12_next_f62) (fun _ h9 => h9) rfl dX12_next_62 ?_
    refine lv_aload_n hx hb dX12_next_65 rfl (lv_at hl 0 rfl) ?_
    refine va_get (D := D) (ci := 12) (v := .ref q_knowns) (C := RX12) (T := TX12) (N := 29) hx hb hts hn_X12_next_X12 hown hK hP 0 rfl rfl 22 (by decide) (hts _ hw_X12_next_f59) (fun _ h9 => h9) rfl dX12_next_66 ?_
    refine lv_iconst (v := (0 : Int32)) hx hb dX12_next_69 (by decide) ?_
    refine va_iald hx hb hK hP 1 1 rfl rfl (show pin (0 : Int32) 3 by decide +kernel) dX12_next_70 ?_
    refine lv_iconst (v := (1 : Int32)) hx hb dX12_next_71 (by decide) ?_
    refine lv_isub hx hb dX12_next_72 ?_
    refine va_iald hx hb hK hP 3 1 rfl rfl g_8 dX12_next_73 ?_
    refine lv_isub hx hb dX12_next_74 ?_
    refine lv_topi (fun x3_10 ex3_10 => ?_)
    have hf := plt_e ex3_10 hf
    refine lv_istore_n (lv' := [(3, .int x3_10), (0, .ref a0), (1, .int x1), (2, .int x2)]) hx hb dX12_next_75 rfl hl (by decide) rfl (fun ls hl => ?_)
    refine lv_iconst (v := (0 : Int32)) hx hb dX12_next_76 (by decide) ?_
    refine lv_istore (lv' := [(4, .int (0 : Int32)), (3, .int x3_10), (0, .ref a0), (1, .int x1), (2, .int x2)]) hx hb dX12_next_77 hl (by decide) rfl (fun ls hl => ?_)
    refine lv_iconst (v := (0 : Int32)) hx hb dX12_next_79 (by decide) ?_
    refine lv_istore (lv' := [(5, .int (0 : Int32)), (4, .int (0 : Int32)), (3, .int x3_10), (0, .ref a0), (1, .int x1), (2, .int x2)]) hx hb dX12_next_80 hl (by decide) rfl (fun ls hl => ?_)
    refine lv_iconst (v := (1 : Int32)) hx hb dX12_next_82 (by decide) ?_
    refine lv_istore (lv' := [(6, .int (1 : Int32)), (5, .int (0 : Int32)), (4, .int (0 : Int32)), (3, .int x3_10), (0, .ref a0), (1, .int x1), (2, .int x2)]) hx hb dX12_next_83 hl (by decide) rfl (fun ls hl => ?_)
    exact k_X12_next_85 C0 hA FU x3_10 (0 : Int32) (0 : Int32) (1 : Int32) hf _ _ hP hD hS ls (lv_sub hl [4, 5, 6, 3, 2, 1, 0] rfl)
  have hf := pbr_f c_9 hf
  refine lv_ldc (v := (-1000000 : Int32)) hx hb hown (hts _ hw_X12_next_c122) dX12_next_52 ?_
  obtain rfl := pe1 hf
  exact m_iret hx hb hr hlocks hP hS dX12_next_54
