/-! ===== OrphanWaveModel.ring(I)I ===== -/
abbrev rm_X12_ring : Room := { frames := 1, cells := 0, slots := 0, locals := 22 }
abbrev w_X12_ring (a0 : Nat) (q_ring : Nat) (q_text : Nat) (q_depths : Nat) (q_tune : Nat) (q_far : Nat) (q_books : Nat) (q_told : Nat) (q_years : Nat) (q_months : Nat) (q_woods : Nat) (q_ends : Nat) (q_wood : Nat) (q_sheets : Nat) (q_marsh : Nat) (q_oldest : Nat) (q_youngest : Nat) (q_knowns : Nat) (q_known : Nat) (q_weight : Nat) (q_chance : Nat) (q_digs : Nat) (q_draft : Nat) (q_isKept : Nat) (cA : Nat → ClassId) (s_trace : Int64) (s_typed : Int32) (s_earliest : Int32) (s_latest : Int32) (s_firstYear : Int32) (s_rings : Int32) (s_ring : Nat → Int32) : va_W := [(a0, .inr (12, [.long s_trace, .ref q_text, .int s_typed, .ref q_depths, .ref q_tune, .ref q_far, .ref q_books, .ref q_told, .int s_earliest, .int s_latest, .ref q_years, .ref q_months, .int s_firstYear, .int s_rings, .ref q_ring, .ref q_woods, .ref q_ends, .ref q_wood, .ref q_sheets, .ref q_marsh, .ref q_oldest, .ref q_youngest, .ref q_knowns, .ref q_known, .ref q_weight, .ref q_chance, .ref q_digs, .ref q_draft, .ref q_isKept])), (q_ring, .inl (cA 1, 60, .inl s_ring))]
theorem hn_X12_ring_X12 : ∀ w ∈ u_ws RX12 TX12 29, w ∈ wsX12_ring := by decide +kernel
theorem hw_X12_ring_f141 : Cond.fieldLink RX12 141 "OrphanWaveModel" "rings" "I" ∈ wsX12_ring := by decide +kernel
theorem hw_X12_ring_f35 : Cond.fieldLink RX12 35 "OrphanWaveModel" "ring" "[I" ∈ wsX12_ring := by decide +kernel

def f_X12_ring (x1 : Int32) (s_rings : Int32) (s_ring : Nat → Int32) : Option ((Int32) × (Int32) × (Nat → Int32)) :=
  pcl (f_X12_in x1 (0 : Int32) (99 : Int32)) (fun r_1 => (
  pbr (r_1 = 0)
    (some ((-1 : Int32), s_rings, s_ring))
    (pbr (s_rings = (60 : Int32))
      (some ((-3 : Int32), s_rings, s_ring))
      (pgd (pin s_rings 60) (
      plt (upd s_ring s_rings.toNatClampNeg x1 : Nat → Int32) (fun f_6 => (
      plt ((s_rings + (1 : Int32)) : Int32) (fun rings_7 => (
      some (rings_7, rings_7, f_6))))))))))

set_option maxRecDepth 100000 in
set_option maxHeartbeats 4000000 in
theorem ct_X12_ring (l : Launch) (D : va_G) (cA : Nat → ClassId) (x1 : Int32) (a0 : Nat) (q_ring : Nat) (q_text : Nat) (q_depths : Nat) (q_tune : Nat) (q_far : Nat) (q_books : Nat) (q_told : Nat) (q_years : Nat) (q_months : Nat) (q_woods : Nat) (q_ends : Nat) (q_wood : Nat) (q_sheets : Nat) (q_marsh : Nat) (q_oldest : Nat) (q_youngest : Nat) (q_knowns : Nat) (q_known : Nat) (q_weight : Nat) (q_chance : Nat) (q_digs : Nat) (q_draft : Nat) (q_isKept : Nat) (s_trace : Int64) (s_typed : Int32) (s_earliest : Int32) (s_latest : Int32) (s_firstYear : Int32) (s_rings : Int32) (s_ring : Nat → Int32) (o_r : Int32) (o_rings : Int32) (o_ring : Nat → Int32) (hf : f_X12_ring x1 s_rings s_ring = some (o_r, o_rings, o_ring)) : CT l yX12_ring wsX12_ring rm_X12_ring D cA [.ref a0, .int x1] (w_X12_ring a0 q_ring q_text q_depths q_tune q_far q_books q_told q_years q_months q_woods q_ends q_wood q_sheets q_marsh q_oldest q_youngest q_knowns q_known q_weight q_chance q_digs q_draft q_isKept cA s_trace s_typed s_earliest s_latest s_firstYear s_rings s_ring) (w_X12_ring a0 q_ring q_text q_depths q_tune q_far q_books q_told q_years q_months q_woods q_ends q_wood q_sheets q_marsh q_oldest q_youngest q_knowns q_known q_weight q_chance q_digs q_draft q_isKept cA s_trace s_typed s_earliest s_latest s_firstYear o_rings o_ring) (some (.int o_r)) := by
  refine CT.ofW (cc := cX12_ring) (maxL := 2) (ret := (some .int)) (by decide +kernel) rfl (Nat.le_of_ble_eq_true rfl) ?_
  intro p e s m below meth c A C0 hA hP hD ls hl
  have C0 : MX p s m [.ref a0, .int x1].toArray meth c cX12_ring 2 wsX12_ring RX12 (some .int) D cA := C0
  have hl : lv_has ls 2 [(0, .ref a0), (1, .int x1)] := hl
  obtain ⟨hx, hb, hml, hown, hts, hr, hlocks, hX⟩ := id C0
  have hK := hX.1
  have hN := hX.2
  have hS : va_S A s.heap s.heap [] := va_S.rf
  unfold f_X12_ring at hf
  refine lv_iload_n hx hb dX12_ring_0 rfl (lv_at hl 1 rfl) ?_
  refine lv_iconst (v := (0 : Int32)) hx hb dX12_ring_1 (by decide) ?_
  refine lv_bipush (v := (99 : Int32)) hx hb dX12_ring_2 (by decide) ?_
  obtain ⟨r_1, hc_2, hf⟩ := pcl_e hf
  refine m_callS2 (As := [.int x1, .int (0 : Int32), .int (99 : Int32)]) (rest := []) ⟨hx, hb, hml, hown, hts⟩ hX (ct_X12_in l D cA x1 (0 : Int32) (99 : Int32) r_1 hc_2) (va_cwS 3 hts gX12_ring_X12_in rfl rfl rfl (by decide +kernel) ⟨Nat.le_of_ble_eq_true rfl, Nat.le_of_ble_eq_true rfl⟩) hP hD hS hA [] [0, 1] 2 (by decide) rfl rfl (WS' := (w_X12_ring a0 q_ring q_text q_depths q_tune q_far q_books q_told q_years q_months q_woods q_ends q_wood q_sheets q_marsh q_oldest q_youngest q_knowns q_known q_weight q_chance q_digs q_draft q_isKept cA s_trace s_typed s_earliest s_latest s_firstYear s_rings s_ring)) (WR := [(a0, .inr (12, [.long s_trace, .ref q_text, .int s_typed, .ref q_depths, .ref q_tune, .ref q_far, .ref q_books, .ref q_told, .int s_earliest, .int s_latest, .ref q_years, .ref q_months, .int s_firstYear, .int s_rings, .ref q_ring, .ref q_woods, .ref q_ends, .ref q_wood, .ref q_sheets, .ref q_marsh, .ref q_oldest, .ref q_youngest, .ref q_knowns, .ref q_known, .ref q_weight, .ref q_chance, .ref q_digs, .ref q_draft, .ref q_isKept])), (q_ring, .inl (cA 1, 60, .inl s_ring))]) rfl rfl rfl rfl (by decide) (by decide) rfl hl.1 rfl (st' := [.int r_1]) rfl (Nat.le_of_ble_eq_true rfl) ⟨Nat.zero_le _, Nat.zero_le _⟩ dX12_ring_4 (fun H locs hP hD hS => ?_)
  refine lv_if_ne (tgt := 12) hx hb dX12_ring_7 (by decide) (fun c_3 => ?_) (fun c_3 => ?_)
  · have hf := pbr_f c_3 hf
    refine lv_aload_n hx hb dX12_ring_12 rfl (lv_at hl 0 rfl) ?_
    refine va_get (D := D) (ci := 12) (v := .int s_rings) (C := RX12) (T := TX12) (N := 29) hx hb hts hn_X12_ring_X12 hown hK hP 0 rfl rfl 13 (by decide) (hts _ hw_X12_ring_f141) (fun _ h9 => h9) rfl dX12_ring_13 ?_
    refine lv_bipush (v := (60 : Int32)) hx hb dX12_ring_16 (by decide) ?_
    refine lv_icmp_ne (tgt := 24) hx hb dX12_ring_18 (by decide) (fun c_4 => ?_) (fun c_4 => ?_)
    · have hf := pbr_f c_4 hf
      refine lv_aload_n hx hb dX12_ring_24 rfl (lv_at hl 0 rfl) ?_
      refine va_get (D := D) (ci := 12) (v := .ref q_ring) (C := RX12) (T := TX12) (N := 29) hx hb hts hn_X12_ring_X12 hown hK hP 0 rfl rfl 14 (by decide) (hts _ hw_X12_ring_f35) (fun _ h9 => h9) rfl dX12_ring_25 ?_
      refine lv_aload_n hx hb dX12_ring_28 rfl (lv_at hl 0 rfl) ?_
      refine va_get (D := D) (ci := 12) (v := .int s_rings) (C := RX12) (T := TX12) (N := 29) hx hb hts hn_X12_ring_X12 hown hK hP 0 rfl rfl 13 (by decide) (hts _ hw_X12_ring_f141) (fun _ h9 => h9) rfl dX12_ring_29 ?_
      refine lv_iload_n hx hb dX12_ring_32 rfl (lv_at hl 1 rfl) ?_
      obtain ⟨g_5, hf⟩ := pgd_e hf
      refine va_iast hx hb hK hP hD hS 1 1 rfl rfl g_5 dX12_ring_33 (fun H locs hP hD hS => ?_)
      obtain ⟨f_6, ef_6⟩ : ∃ z : Nat → Int32, z = upd s_ring s_rings.toNatClampNeg x1 := ⟨_, rfl⟩
      have hf := plt_e ef_6 hf
      have hP : va_P D vwCl (w_X12_ring a0 q_ring q_text q_depths q_tune q_far q_books q_told q_years q_months q_woods q_ends q_wood q_sheets q_marsh q_oldest q_youngest q_knowns q_known q_weight q_chance q_digs q_draft q_isKept cA s_trace s_typed s_earliest s_latest s_firstYear s_rings f_6) H := by rw [ef_6]; exact hP
      have hD : va_D A (w_X12_ring a0 q_ring q_text q_depths q_tune q_far q_books q_told q_years q_months q_woods q_ends q_wood q_sheets q_marsh q_oldest q_youngest q_knowns q_known q_weight q_chance q_digs q_draft q_isKept cA s_trace s_typed s_earliest s_latest s_firstYear s_rings f_6) := by rw [ef_6]; exact hD
      refine lv_aload_n hx hb dX12_ring_34 rfl (lv_at hl 0 rfl) ?_
      refine lv_dup hx hb dX12_ring_35 rfl ?_
      refine va_get (D := D) (ci := 12) (v := .int s_rings) (C := RX12) (T := TX12) (N := 29) hx hb hts hn_X12_ring_X12 hown hK hP 0 rfl rfl 13 (by decide) (hts _ hw_X12_ring_f141) (fun _ h9 => h9) rfl dX12_ring_36 ?_
      refine lv_iconst (v := (1 : Int32)) hx hb dX12_ring_39 (by decide) ?_
      refine lv_iadd hx hb dX12_ring_40 ?_
      refine lv_topi (fun rings_7 erings_7 => ?_)
      have hf := plt_e erings_7 hf
      refine va_put (D := D) (ci := 12) (v := .int rings_7) (ty := .int) (C := RX12) (T := TX12) (N := 29) hx hb hts hn_X12_ring_X12 tyX12 tyX12_ok nmX12 hown hK hP hD hS 0 rfl rfl 13 (by decide) (hts _ hw_X12_ring_f141) (fun _ h9 => h9) rfl (by decide +kernel) rfl rfl (Nat.le_of_ble_eq_true rfl) dX12_ring_41 (fun H locs hP hD hS => ?_)
      have hP : va_P D vwCl (w_X12_ring a0 q_ring q_text q_depths q_tune q_far q_books q_told q_years q_months q_woods q_ends q_wood q_sheets q_marsh q_oldest q_youngest q_knowns q_known q_weight q_chance q_digs q_draft q_isKept cA s_trace s_typed s_earliest s_latest s_firstYear rings_7 f_6) H := hP
      have hD : va_D A (w_X12_ring a0 q_ring q_text q_depths q_tune q_far q_books q_told q_years q_months q_woods q_ends q_wood q_sheets q_marsh q_oldest q_youngest q_knowns q_known q_weight q_chance q_digs q_draft q_isKept cA s_trace s_typed s_earliest s_latest s_firstYear rings_7 f_6) := hD
      refine lv_aload_n hx hb dX12_ring_44 rfl (lv_at hl 0 rfl) ?_
      refine va_get (D := D) (ci := 12) (v := .int rings_7) (C := RX12) (T := TX12) (N := 29) hx hb hts hn_X12_ring_X12 hown hK hP 0 rfl rfl 13 (by decide) (hts _ hw_X12_ring_f141) (fun _ h9 => h9) rfl dX12_ring_45 ?_
      obtain ⟨rfl, rfl, rfl⟩ := pe3 hf
      exact m_iret hx hb hr hlocks hP hS dX12_ring_48
    have hf := pbr_t c_4 hf
    refine lv_bipush (v := (-3 : Int32)) hx hb dX12_ring_21 (by decide) ?_
    obtain ⟨rfl, rfl, rfl⟩ := pe3 hf
    exact m_iret hx hb hr hlocks hP hS dX12_ring_23
  have hf := pbr_t c_3 hf
  refine lv_iconst (v := (-1 : Int32)) hx hb dX12_ring_10 (by decide) ?_
  obtain ⟨rfl, rfl, rfl⟩ := pe3 hf
  exact m_iret hx hb hr hlocks hP hS dX12_ring_11

/-! ===== OrphanWaveModel.living(I)I ===== -/
abbrev rm_X12_living : Room := { frames := 1, cells := 0, slots := 0, locals := 22 }
abbrev w_X12_living (a0 : Nat) (q_text : Nat) (q_depths : Nat) (q_tune : Nat) (q_far : Nat) (q_books : Nat) (q_told : Nat) (q_years : Nat) (q_months : Nat) (q_ring : Nat) (q_woods : Nat) (q_ends : Nat) (q_wood : Nat) (q_sheets : Nat) (q_marsh : Nat) (q_oldest : Nat) (q_youngest : Nat) (q_knowns : Nat) (q_known : Nat) (q_weight : Nat) (q_chance : Nat) (q_digs : Nat) (q_draft : Nat) (q_isKept : Nat) (cA : Nat → ClassId) (s_trace : Int64) (s_typed : Int32) (s_earliest : Int32) (s_latest : Int32) (s_firstYear : Int32) (s_rings : Int32) : va_W := [(a0, .inr (12, [.long s_trace, .ref q_text, .int s_typed, .ref q_depths, .ref q_tune, .ref q_far, .ref q_books, .ref q_told, .int s_earliest, .int s_latest, .ref q_years, .ref q_months, .int s_firstYear, .int s_rings, .ref q_ring, .ref q_woods, .ref q_ends, .ref q_wood, .ref q_sheets, .ref q_marsh, .ref q_oldest, .ref q_youngest, .ref q_knowns, .ref q_known, .ref q_weight, .ref q_chance, .ref q_digs, .ref q_draft, .ref q_isKept]))]
theorem hn_X12_living_X12 : ∀ w ∈ u_ws RX12 TX12 29, w ∈ wsX12_living := by decide +kernel
theorem hw_X12_living_f141 : Cond.fieldLink RX12 141 "OrphanWaveModel" "rings" "I" ∈ wsX12_living := by decide +kernel
theorem hw_X12_living_f82 : Cond.fieldLink RX12 82 "OrphanWaveModel" "firstYear" "I" ∈ wsX12_living := by decide +kernel

def f_X12_living (x1 : Int32) (s_firstYear : Int32) (s_rings : Int32) : Option ((Int32) × (Int32) × (Int32)) :=
  pcl (f_X12_in x1 (0 : Int32) (9999 : Int32)) (fun r_1 => (
  pbr (r_1 = 0)
    (some ((-1 : Int32), s_firstYear, s_rings))
    (some (s_rings, x1, (0 : Int32)))))

set_option maxRecDepth 100000 in
set_option maxHeartbeats 4000000 in
theorem ct_X12_living (l : Launch) (D : va_G) (cA : Nat → ClassId) (x1 : Int32) (a0 : Nat) (q_text : Nat) (q_depths : Nat) (q_tune : Nat) (q_far : Nat) (q_books : Nat) (q_told : Nat) (q_years : Nat) (q_months : Nat) (q_ring : Nat) (q_woods : Nat) (q_ends : Nat) (q_wood : Nat) (q_sheets : Nat) (q_marsh : Nat) (q_oldest : Nat) (q_youngest : Nat) (q_knowns : Nat) (q_known : Nat) (q_weight : Nat) (q_chance : Nat) (q_digs : Nat) (q_draft : Nat) (q_isKept : Nat) (s_trace : Int64) (s_typed : Int32) (s_earliest : Int32) (s_latest : Int32) (s_firstYear : Int32) (s_rings : Int32) (o_r : Int32) (o_firstYear : Int32) (o_rings : Int32) (hf : f_X12_living x1 s_firstYear s_rings = some (o_r, o_firstYear, o_rings)) : CT l yX12_living wsX12_living rm_X12_living D cA [.ref a0, .int x1] (w_X12_living a0 q_text q_depths q_tune q_far q_books q_told q_years q_months q_ring q_woods q_ends q_wood q_sheets q_marsh q_oldest q_youngest q_knowns q_known q_weight q_chance q_digs q_draft q_isKept cA s_trace s_typed s_earliest s_latest s_firstYear s_rings) (w_X12_living a0 q_text q_depths q_tune q_far q_books q_told q_years q_months q_ring q_woods q_ends q_wood q_sheets q_marsh q_oldest q_youngest q_knowns q_known q_weight q_chance q_digs q_draft q_isKept cA s_trace s_typed s_earliest s_latest o_firstYear o_rings) (some (.int o_r)) := by
  refine CT.ofW (cc := cX12_living) (maxL := 3) (ret := (some .int)) (by decide +kernel) rfl (Nat.le_of_ble_eq_true rfl) ?_
  intro p e s m below meth c A C0 hA hP hD ls hl
  have C0 : MX p s m [.ref a0, .int x1].toArray meth c cX12_living 3 wsX12_living RX12 (some .int) D cA := C0
  have hl : lv_has ls 3 [(0, .ref a0), (1, .int x1)] := hl
  obtain ⟨hx, hb, hml, hown, hts, hr, hlocks, hX⟩ := id C0
  have hK := hX.1
  have hN := hX.2
  have hS : va_S A s.heap s.heap [] := va_S.rf
  unfold f_X12_living at hf
  refine lv_iload_n hx hb dX12_living_0 rfl (lv_at hl 1 rfl) ?_
  refine lv_iconst (v := (0 : Int32)) hx hb dX12_living_1 (by decide) ?_
  refine lv_sipush (v := (9999 : Int32)) hx hb dX12_living_2 (by decide) ?_
  obtain ⟨r_1, hc_2, hf⟩ := pcl_e hf
  refine m_callS2 (As := [.int x1, .int (0 : Int32), .int (9999 : Int32)]) (rest := []) ⟨hx, hb, hml, hown, hts⟩ hX (ct_X12_in l D cA x1 (0 : Int32) (9999 : Int32) r_1 hc_2) (va_cwS 3 hts gX12_living_X12_in rfl rfl rfl (by decide +kernel) ⟨Nat.le_of_ble_eq_true rfl, Nat.le_of_ble_eq_true rfl⟩) hP hD hS hA [] [0] 1 (by decide) rfl rfl (WS' := (w_X12_living a0 q_text q_depths q_tune q_far q_books q_told q_years q_months q_ring q_woods q_ends q_wood q_sheets q_marsh q_oldest q_youngest q_knowns q_known q_weight q_chance q_digs q_draft q_isKept cA s_trace s_typed s_earliest s_latest s_firstYear s_rings)) (WR := [(a0, .inr (12, [.long s_trace, .ref q_text, .int s_typed, .ref q_depths, .ref q_tune, .ref q_far, .ref q_books, .ref q_told, .int s_earliest, .int s_latest, .ref q_years, .ref q_months, .int s_firstYear, .int s_rings, .ref q_ring, .ref q_woods, .ref q_ends, .ref q_wood, .ref q_sheets, .ref q_marsh, .ref q_oldest, .ref q_youngest, .ref q_knowns, .ref q_known, .ref q_weight, .ref q_chance, .ref q_digs, .ref q_draft, .ref q_isKept]))]) rfl rfl rfl rfl (by decide) (by decide) rfl hl.1 rfl (st' := [.int r_1]) rfl (Nat.le_of_ble_eq_true rfl) ⟨Nat.zero_le _, Nat.zero_le _⟩ dX12_living_5 (fun H locs hP hD hS => ?_)
  refine lv_if_ne (tgt := 13) hx hb dX12_living_8 (by decide) (fun c_3 => ?_) (fun c_3 => ?_)
  · have hf := pbr_f c_3 hf
    refine lv_aload_n hx hb dX12_living_13 rfl (lv_at hl 0 rfl) ?_
    refine va_get (D := D) (ci := 12) (v := .int s_rings) (C := RX12) (T := TX12) (N := 29) hx hb hts hn_X12_living_X12 hown hK hP 0 rfl rfl 13 (by decide) (hts _ hw_X12_living_f141) (fun _ h9 => h9) rfl dX12_living_14 ?_
    refine lv_istore_n (lv' := [(2, .int s_rings), (0, .ref a0), (1, .int x1)]) hx hb dX12_living_17 rfl hl (by decide) rfl (fun ls hl => ?_)
    refine lv_aload_n hx hb dX12_living_18 rfl (lv_at hl 1 rfl) ?_
    refine lv_iload_n hx hb dX12_living_19 rfl (lv_at hl 2 rfl) ?_
    refine va_put (D := D) (ci := 12) (v := .int x1) (ty := .int) (C := RX12) (T := TX12) (N := 29) hx hb hts hn_X12_living_X12 tyX12 tyX12_ok nmX12 hown hK hP hD hS 0 rfl rfl 12 (by decide) (hts _ hw_X12_living_f82) (fun _ h9 => h9) rfl (by decide +kernel) rfl rfl (Nat.le_of_ble_eq_true rfl) dX12_living_20 (fun H locs hP hD hS => ?_)
    have hP : va_P D vwCl (w_X12_living a0 q_text q_depths q_tune q_far q_books q_told q_years q_months q_ring q_woods q_ends q_wood q_sheets q_marsh q_oldest q_youngest q_knowns q_known q_weight q_chance q_digs q_draft q_isKept cA s_trace s_typed s_earliest s_latest x1 s_rings) H := hP
    have hD : va_D A (w_X12_living a0 q_text q_depths q_tune q_far q_books q_told q_years q_months q_ring q_woods q_ends q_wood q_sheets q_marsh q_oldest q_youngest q_knowns q_known q_weight q_chance q_digs q_draft q_isKept cA s_trace s_typed s_earliest s_latest x1 s_rings) := hD
    refine lv_aload_n hx hb dX12_living_23 rfl (lv_at hl 1 rfl) ?_
    refine lv_iconst (v := (0 : Int32)) hx hb dX12_living_24 (by decide) ?_
    refine va_put (D := D) (ci := 12) (v := .int (0 : Int32)) (ty := .int) (C := RX12) (T := TX12) (N := 29) hx hb hts hn_X12_living_X12 tyX12 tyX12_ok nmX12 hown hK hP hD hS 0 rfl rfl 13 (by decide) (hts _ hw_X12_living_f141) (fun _ h9 => h9) rfl (by decide +kernel) rfl rfl (Nat.le_of_ble_eq_true rfl) dX12_living_25 (fun H locs hP hD hS => ?_)
    have hP : va_P D vwCl (w_X12_living a0 q_text q_depths q_tune q_far q_books q_told q_years q_months q_ring q_woods q_ends q_wood q_sheets q_marsh q_oldest q_youngest q_knowns q_known q_weight q_chance q_digs q_draft q_isKept cA s_trace s_typed s_earliest s_latest x1 (0 : Int32)) H := hP
    have hD : va_D A (w_X12_living a0 q_text q_depths q_tune q_far q_books q_told q_years q_months q_ring q_woods q_ends q_wood q_sheets q_marsh q_oldest q_youngest q_knowns q_known q_weight q_chance q_digs q_draft q_isKept cA s_trace s_typed s_earliest s_latest x1 (0 : Int32)) := hD
    refine lv_iload_n hx hb dX12_living_28 rfl (lv_at hl 0 rfl) ?_
    obtain ⟨rfl, rfl, rfl⟩ := pe3 hf
    exact m_iret hx hb hr hlocks hP hS dX12_living_29
  have hf := pbr_t c_3 hf
  refine lv_iconst (v := (-1 : Int32)) hx hb dX12_living_11 (by decide) ?_
  obtain ⟨rfl, rfl, rfl⟩ := pe3 hf
  exact m_iret hx hb hr hlocks hP hS dX12_living_12

/-! ===== OrphanWaveModel.isWood(I)Z ===== -/
abbrev rm_X12_isWood : Room := { frames := 1, cells := 0, slots := 0, locals := 22 }
abbrev w_X12_isWood  (cA : Nat → ClassId)  : va_W := []

def f_X12_isWood (x0 : Int32) : Option ((Int32)) :=
  pcl (f_X12_in x0 (0 : Int32) (3 : Int32)) (fun r_1 => (
  pgd (r_1 = 0 ∨ r_1 = 1) (
  some (r_1))))

set_option maxRecDepth 100000 in
set_option maxHeartbeats 4000000 in
theorem ct_X12_isWood (l : Launch) (D : va_G) (cA : Nat → ClassId) (x0 : Int32) (o_r : Int32) (hf : f_X12_isWood x0 = some o_r) : CT l yX12_isWood wsX12_isWood rm_X12_isWood D cA [.int x0] (w_X12_isWood  cA ) (w_X12_isWood  cA ) (some (.int o_r)) := by
  refine CT.ofW (cc := cX12_isWood) (maxL := 1) (ret := (some .boolean)) (by decide +kernel) rfl (Nat.le_of_ble_eq_true rfl) ?_
  intro p e s m below meth c A C0 hA hP hD ls hl
  have C0 : MX p s m [.int x0].toArray meth c cX12_isWood 1 wsX12_isWood RX12 (some .boolean) D cA := C0
  have hl : lv_has ls 1 [(0, .int x0)] := hl
  obtain ⟨hx, hb, hml, hown, hts, hr, hlocks, hX⟩ := id C0
  have hK := hX.1
  have hN := hX.2
  have hS : va_S A s.heap s.heap [] := va_S.rf
  unfold f_X12_isWood at hf
  refine lv_iload_n hx hb dX12_isWood_0 rfl (lv_at hl 0 rfl) ?_
  refine lv_iconst (v := (0 : Int32)) hx hb dX12_isWood_1 (by decide) ?_
  refine lv_iconst (v := (3 : Int32)) hx hb dX12_isWood_2 (by decide) ?_
  obtain ⟨r_1, hc_2, hf⟩ := pcl_e hf
  refine m_callS2 (As := [.int x0, .int (0 : Int32), .int (3 : Int32)]) (rest := []) ⟨hx, hb, hml, hown, hts⟩ hX (ct_X12_in l D cA x0 (0 : Int32) (3 : Int32) r_1 hc_2) (va_cwS 3 hts gX12_isWood_X12_in rfl rfl rfl (by decide +kernel) ⟨Nat.le_of_ble_eq_true rfl, Nat.le_of_ble_eq_true rfl⟩) hP hD hS hA [] [] 0 (by decide) rfl rfl (WS' := (w_X12_isWood  cA )) (WR := []) rfl rfl rfl rfl (by decide) (by decide) rfl hl.1 rfl (st' := [.int r_1]) rfl (Nat.le_of_ble_eq_true rfl) ⟨Nat.zero_le _, Nat.zero_le _⟩ dX12_isWood_3 (fun H locs hP hD hS => ?_)
  obtain ⟨g_3, hf⟩ := pgd_e hf
  obtain rfl := pe1 hf
  exact m_zret g_3 hx hb hr hlocks hP hS dX12_isWood_6

/-! ===== OrphanWaveModel.wood(II)I ===== -/
abbrev rm_X12_wood : Room := { frames := 2, cells := 0, slots := 0, locals := 42 }
abbrev w_X12_wood (a0 : Nat) (q_woods : Nat) (q_wood : Nat) (q_text : Nat) (q_depths : Nat) (q_tune : Nat) (q_far : Nat) (q_books : Nat) (q_told : Nat) (q_years : Nat) (q_months : Nat) (q_ring : Nat) (q_ends : Nat) (q_sheets : Nat) (q_marsh : Nat) (q_oldest : Nat) (q_youngest : Nat) (q_knowns : Nat) (q_known : Nat) (q_weight : Nat) (q_chance : Nat) (q_digs : Nat) (q_draft : Nat) (q_isKept : Nat) (cA : Nat → ClassId) (s_trace : Int64) (s_typed : Int32) (s_earliest : Int32) (s_latest : Int32) (s_firstYear : Int32) (s_rings : Int32) (s_woods : Nat → Int32) (s_wood : Nat → Int32) : va_W := [(a0, .inr (12, [.long s_trace, .ref q_text, .int s_typed, .ref q_depths, .ref q_tune, .ref q_far, .ref q_books, .ref q_told, .int s_earliest, .int s_latest, .ref q_years, .ref q_months, .int s_firstYear, .int s_rings, .ref q_ring, .ref q_woods, .ref q_ends, .ref q_wood, .ref q_sheets, .ref q_marsh, .ref q_oldest, .ref q_youngest, .ref q_knowns, .ref q_known, .ref q_weight, .ref q_chance, .ref q_digs, .ref q_draft, .ref q_isKept])), (q_woods, .inl (cA 1, 4, .inl s_woods)), (q_wood, .inl (cA 1, 120, .inl s_wood))]
theorem hn_X12_wood_X12 : ∀ w ∈ u_ws RX12 TX12 29, w ∈ wsX12_wood := by decide +kernel
theorem hw_X12_wood_f38 : Cond.fieldLink RX12 38 "OrphanWaveModel" "woods" "[I" ∈ wsX12_wood := by decide +kernel
theorem hw_X12_wood_f44 : Cond.fieldLink RX12 44 "OrphanWaveModel" "wood" "[I" ∈ wsX12_wood := by decide +kernel

def f_X12_wood (x1 : Int32) (x2 : Int32) (s_woods : Nat → Int32) (s_wood : Nat → Int32) : Option ((Int32) × (Nat → Int32) × (Nat → Int32)) :=
  pcl (f_X12_isWood x1) (fun r_1 => (
  pbr (r_1 = 0)
    (some ((-1 : Int32), s_woods, s_wood))
    (pcl (f_X12_in x2 (0 : Int32) (99 : Int32)) (fun r_4 => (
    pbr (r_4 = 0)
      (some ((-1 : Int32), s_woods, s_wood))
      (pgd (pin x1 4) (
      pbr ((s_woods x1.toNatClampNeg) = (30 : Int32))
        (some ((-3 : Int32), s_woods, s_wood))
        (pgd (pin (((30 : Int32) * x1) + (s_woods x1.toNatClampNeg)) 120) (
        plt (upd s_wood (((30 : Int32) * x1) + (s_woods x1.toNatClampNeg)).toNatClampNeg x2 : Nat → Int32) (fun f_10 => (
        plt (upd s_woods x1.toNatClampNeg ((s_woods x1.toNatClampNeg) + (1 : Int32)) : Nat → Int32) (fun f_11 => (
        some ((f_11 x1.toNatClampNeg), f_11, f_10))))))))))))))

set_option maxRecDepth 100000 in
set_option maxHeartbeats 4000000 in
theorem ct_X12_wood (l : Launch) (D : va_G) (cA : Nat → ClassId) (x1 : Int32) (x2 : Int32) (a0 : Nat) (q_woods : Nat) (q_wood : Nat) (q_text : Nat) (q_depths : Nat) (q_tune : Nat) (q_far : Nat) (q_books : Nat) (q_told : Nat) (q_years : Nat) (q_months : Nat) (q_ring : Nat) (q_ends : Nat) (q_sheets : Nat) (q_marsh : Nat) (q_oldest : Nat) (q_youngest : Nat) (q_knowns : Nat) (q_known : Nat) (q_weight : Nat) (q_chance : Nat) (q_digs : Nat) (q_draft : Nat) (q_isKept : Nat) (s_trace : Int64) (s_typed : Int32) (s_earliest : Int32) (s_latest : Int32) (s_firstYear : Int32) (s_rings : Int32) (s_woods : Nat → Int32) (s_wood : Nat → Int32) (o_r : Int32) (o_woods : Nat → Int32) (o_wood : Nat → Int32) (hf : f_X12_wood x1 x2 s_woods s_wood = some (o_r, o_woods, o_wood)) : CT l yX12_wood wsX12_wood rm_X12_wood D cA [.ref a0, .int x1, .int x2] (w_X12_wood a0 q_woods q_wood q_text q_depths q_tune q_far q_books q_told q_years q_months q_ring q_ends q_sheets q_marsh q_oldest q_youngest q_knowns q_known q_weight q_chance q_digs q_draft q_isKept cA s_trace s_typed s_earliest s_latest s_firstYear s_rings s_woods s_wood) (w_X12_wood a0 q_woods q_wood q_text q_depths q_tune q_far q_books q_told q_years q_months q_ring q_ends q_sheets q_marsh q_oldest q_youngest q_knowns q_known q_weight q_chance q_digs q_draft q_isKept cA s_trace s_typed s_earliest s_latest s_firstYear s_rings o_woods o_wood) (some (.int o_r)) := by
  refine CT.ofW (cc := cX12_wood) (maxL := 3) (ret := (some .int)) (by decide +kernel) rfl (Nat.le_of_ble_eq_true rfl) ?_
  intro p e s m below meth c A C0 hA hP hD ls hl
  have C0 : MX p s m [.ref a0, .int x1, .int x2].toArray meth c cX12_wood 3 wsX12_wood RX12 (some .int) D cA := C0
  have hl : lv_has ls 3 [(0, .ref a0), (1, .int x1), (2, .int x2)] := hl
  obtain ⟨hx, hb, hml, hown, hts, hr, hlocks, hX⟩ := id C0
  have hK := hX.1
  have hN := hX.2
  have hS : va_S A s.heap s.heap [] := va_S.rf
  unfold f_X12_wood at hf
  refine lv_iload_n hx hb dX12_wood_0 rfl (lv_at hl 1 rfl) ?_
  obtain ⟨r_1, hc_2, hf⟩ := pcl_e hf
  refine m_callS2 (As := [.int x1]) (rest := []) ⟨hx, hb, hml, hown, hts⟩ hX (ct_X12_isWood l D cA x1 r_1 hc_2) (va_cwS 1 hts gX12_wood_X12_isWood rfl rfl rfl (by decide +kernel) ⟨Nat.le_of_ble_eq_true rfl, Nat.le_of_ble_eq_true rfl⟩) hP hD hS hA [] [0, 1, 2] 3 (by decide) rfl rfl (WS' := (w_X12_wood a0 q_woods q_wood q_text q_depths q_tune q_far q_books q_told q_years q_months q_ring q_ends q_sheets q_marsh q_oldest q_youngest q_knowns q_known q_weight q_chance q_digs q_draft q_isKept cA s_trace s_typed s_earliest s_latest s_firstYear s_rings s_woods s_wood)) (WR := [(a0, .inr (12, [.long s_trace, .ref q_text, .int s_typed, .ref q_depths, .ref q_tune, .ref q_far, .ref q_books, .ref q_told, .int s_earliest, .int s_latest, .ref q_years, .ref q_months, .int s_firstYear, .int s_rings, .ref q_ring, .ref q_woods, .ref q_ends, .ref q_wood, .ref q_sheets, .ref q_marsh, .ref q_oldest, .ref q_youngest, .ref q_knowns, .ref q_known, .ref q_weight, .ref q_chance, .ref q_digs, .ref q_draft, .ref q_isKept])), (q_woods, .inl (cA 1, 4, .inl s_woods)), (q_wood, .inl (cA 1, 120, .inl s_wood))]) rfl rfl rfl rfl (by decide) (by decide) rfl hl.1 rfl (st' := [.int r_1]) rfl (Nat.le_of_ble_eq_true rfl) ⟨Nat.zero_le _, Nat.zero_le _⟩ dX12_wood_1 (fun H locs hP hD hS => ?_)
  refine lv_if_eq (tgt := 17) hx hb dX12_wood_4 (by decide) (fun c_3 => ?_) (fun c_3 => ?_)
  · have hf := pbr_t c_3 hf
    refine lv_iconst (v := (-1 : Int32)) hx hb dX12_wood_17 (by decide) ?_
    obtain ⟨rfl, rfl, rfl⟩ := pe3 hf
    exact m_iret hx hb hr hlocks hP hS dX12_wood_18
  have hf := pbr_f c_3 hf
  refine lv_iload_n hx hb dX12_wood_7 rfl (lv_at hl 2 rfl) ?_
  refine lv_iconst (v := (0 : Int32)) hx hb dX12_wood_8 (by decide) ?_
  refine lv_bipush (v := (99 : Int32)) hx hb dX12_wood_9 (by decide) ?_
  obtain ⟨r_4, hc_5, hf⟩ := pcl_e hf
  refine m_callS2 (As := [.int x2, .int (0 : Int32), .int (99 : Int32)]) (rest := []) ⟨hx, hb, hml, hown, hts⟩ hX (ct_X12_in l D cA x2 (0 : Int32) (99 : Int32) r_4 hc_5) (va_cwS 3 hts gX12_wood_X12_in rfl rfl rfl (by decide +kernel) ⟨Nat.le_of_ble_eq_true rfl, Nat.le_of_ble_eq_true rfl⟩) hP hD hS hA [] [0, 1, 2] 3 (by decide) rfl rfl (WS' := (w_X12_wood a0 q_woods q_wood q_text q_depths q_tune q_far q_books q_told q_years q_months q_ring q_ends q_sheets q_marsh q_oldest q_youngest q_knowns q_known q_weight q_chance q_digs q_draft q_isKept cA s_trace s_typed s_earliest s_latest s_firstYear s_rings s_woods s_wood)) (WR := [(a0, .inr (12, [.long s_trace, .ref q_text, .int s_typed, .ref q_depths, .ref q_tune, .ref q_far, .ref q_books, .ref q_told, .int s_earliest, .int s_latest, .ref q_years, .ref q_months, .int s_firstYear, .int s_rings, .ref q_ring, .ref q_woods, .ref q_ends, .ref q_wood, .ref q_sheets, .ref q_marsh, .ref q_oldest, .ref q_youngest, .ref q_knowns, .ref q_known, .ref q_weight, .ref q_chance, .ref q_digs, .ref q_draft, .ref q_isKept])), (q_woods, .inl (cA 1, 4, .inl s_woods)), (q_wood, .inl (cA 1, 120, .inl s_wood))]) rfl rfl rfl rfl (by decide) (by decide) rfl hl.1 rfl (st' := [.int r_4]) rfl (Nat.le_of_ble_eq_true rfl) ⟨Nat.zero_le _, Nat.zero_le _⟩ dX12_wood_11 (fun H locs hP hD hS => ?_)
  refine lv_if_ne (tgt := 19) hx hb dX12_wood_14 (by decide) (fun c_6 => ?_) (fun c_6 => ?_)
  · have hf := pbr_f c_6 hf
    refine lv_aload_n hx hb dX12_wood_19 rfl (lv_at hl 0 rfl) ?_
    refine va_get (D := D) (ci := 12) (v := .ref q_woods) (C := RX12) (T := TX12) (N := 29) hx hb hts hn_X12_wood_X12 hown hK hP 0 rfl rfl 15 (by decide) (hts _ hw_X12_wood_f38) (fun _ h9 => h9) rfl dX12_wood_20 ?_
    refine lv_iload_n hx hb dX12_wood_23 rfl (lv_at hl 1 rfl) ?_
    obtain ⟨g_7, hf⟩ := pgd_e hf
    refine va_iald hx hb hK hP 1 1 rfl rfl g_7 dX12_wood_24 ?_
    refine lv_bipush (v := (30 : Int32)) hx hb dX12_wood_25 (by decide) ?_
    refine lv_icmp_ne (tgt := 33) hx hb dX12_wood_27 (by decide) (fun c_8 => ?_) (fun c_8 => ?_)
    · have hf := pbr_f c_8 hf
      refine lv_aload_n hx hb dX12_wood_33 rfl (lv_at hl 0 rfl) ?_
      refine va_get (D := D) (ci := 12) (v := .ref q_wood) (C := RX12) (T := TX12) (N := 29) hx hb hts hn_X12_wood_X12 hown hK hP 0 rfl rfl 17 (by decide) (hts _ hw_X12_wood_f44) (fun _ h9 => h9) rfl dX12_wood_34 ?_
      refine lv_bipush (v := (30 : Int32)) hx hb dX12_wood_37 (by decide) ?_
      refine lv_iload_n hx hb dX12_wood_39 rfl (lv_at hl 1 rfl) ?_
      refine lv_imul hx hb dX12_wood_40 ?_
      refine lv_aload_n hx hb dX12_wood_41 rfl (lv_at hl 0 rfl) ?_
      refine va_get (D := D) (ci := 12) (v := .ref q_woods) (C := RX12) (T := TX12) (N := 29) hx hb hts hn_X12_wood_X12 hown hK hP 0 rfl rfl 15 (by decide) (hts _ hw_X12_wood_f38) (fun _ h9 => h9) rfl dX12_wood_42 ?_
      refine lv_iload_n hx hb dX12_wood_45 rfl (lv_at hl 1 rfl) ?_
      refine va_iald hx hb hK hP 1 1 rfl rfl g_7 dX12_wood_46 ?_
      refine lv_iadd hx hb dX12_wood_47 ?_
      refine lv_iload_n hx hb dX12_wood_48 rfl (lv_at hl 2 rfl) ?_
      obtain ⟨g_9, hf⟩ := pgd_e hf
      refine va_iast hx hb hK hP hD hS 2 1 rfl rfl g_9 dX12_wood_49 (fun H locs hP hD hS => ?_)
      obtain ⟨f_10, ef_10⟩ : ∃ z : Nat → Int32, z = upd s_wood (((30 : Int32) * x1) + (s_woods x1.toNatClampNeg)).toNatClampNeg x2 := ⟨_, rfl⟩
      have hf := plt_e ef_10 hf
      have hP : va_P D vwCl (w_X12_wood a0 q_woods q_wood q_text q_depths q_tune q_far q_books q_told q_years q_months q_ring q_ends q_sheets q_marsh q_oldest q_youngest q_knowns q_known q_weight q_chance q_digs q_draft q_isKept cA s_trace s_typed s_earliest s_latest s_firstYear s_rings s_woods f_10) H := by rw [ef_10]; exact hP
      have hD : va_D A (w_X12_wood a0 q_woods q_wood q_text q_depths q_tune q_far q_books q_told q_years q_months q_ring q_ends q_sheets q_marsh q_oldest q_youngest q_knowns q_known q_weight q_chance q_digs q_draft q_isKept cA s_trace s_typed s_earliest s_latest s_firstYear s_rings s_woods f_10) := by rw [ef_10]; exact hD
      refine lv_aload_n hx hb dX12_wood_50 rfl (lv_at hl 0 rfl) ?_
      refine va_get (D := D) (ci := 12) (v := .ref q_woods) (C := RX12) (T := TX12) (N := 29) hx hb hts hn_X12_wood_X12 hown hK hP 0 rfl rfl 15 (by decide) (hts _ hw_X12_wood_f38) (fun _ h9 => h9) rfl dX12_wood_51 ?_
      refine lv_iload_n hx hb dX12_wood_54 rfl (lv_at hl 1 rfl) ?_
      refine lv_dup2_11 hx hb dX12_wood_55 rfl rfl ?_
      refine va_iald hx hb hK hP 1 1 rfl rfl g_7 dX12_wood_56 ?_
      refine lv_iconst (v := (1 : Int32)) hx hb dX12_wood_57 (by decide) ?_
      refine lv_iadd hx hb dX12_wood_58 ?_
      refine va_iast hx hb hK hP hD hS 1 1 rfl rfl g_7 dX12_wood_59 (fun H locs hP hD hS => ?_)
      obtain ⟨f_11, ef_11⟩ : ∃ z : Nat → Int32, z = upd s_woods x1.toNatClampNeg ((s_woods x1.toNatClampNeg) + (1 : Int32)) := ⟨_, rfl⟩
      have hf := plt_e ef_11 hf
      have hP : va_P D vwCl (w_X12_wood a0 q_woods q_wood q_text q_depths q_tune q_far q_books q_told q_years q_months q_ring q_ends q_sheets q_marsh q_oldest q_youngest q_knowns q_known q_weight q_chance q_digs q_draft q_isKept cA s_trace s_typed s_earliest s_latest s_firstYear s_rings f_11 f_10) H := by rw [ef_11]; exact hP
      have hD : va_D A (w_X12_wood a0 q_woods q_wood q_text q_depths q_tune q_far q_books q_told q_years q_months q_ring q_ends q_sheets q_marsh q_oldest q_youngest q_knowns q_known q_weight q_chance q_digs q_draft q_isKept cA s_trace s_typed s_earliest s_latest s_firstYear s_rings f_11 f_10) := by rw [ef_11]; exact hD
      refine lv_aload_n hx hb dX12_wood_60 rfl (lv_at hl 0 rfl) ?_
      refine va_get (D := D) (ci := 12) (v := .ref q_woods) (C := RX12) (T := TX12) (N := 29) hx hb hts hn_X12_wood_X12 hown hK hP 0 rfl rfl 15 (by decide) (hts _ hw_X12_wood_f38) (fun _ h9 => h9) rfl dX12_wood_61 ?_
      refine lv_iload_n hx hb dX12_wood_64 rfl (lv_at hl 1 rfl) ?_
      refine va_iald hx hb hK hP 1 1 rfl rfl g_7 dX12_wood_65 ?_
      obtain ⟨rfl, rfl, rfl⟩ := pe3 hf
      exact m_iret hx hb hr hlocks hP hS dX12_wood_66
    have hf := pbr_t c_8 hf
    refine lv_bipush (v := (-3 : Int32)) hx hb dX12_wood_30 (by decide) ?_
    obtain ⟨rfl, rfl, rfl⟩ := pe3 hf
    exact m_iret hx hb hr hlocks hP hS dX12_wood_32
  have hf := pbr_t c_6 hf
  refine lv_iconst (v := (-1 : Int32)) hx hb dX12_wood_17 (by decide) ?_
  obtain ⟨rfl, rfl, rfl⟩ := pe3 hf
  exact m_iret hx hb hr hlocks hP hS dX12_wood_18

/-! ===== OrphanWaveModel.felled(II)I ===== -/
abbrev rm_X12_felled : Room := { frames := 2, cells := 0, slots := 0, locals := 42 }
abbrev w_X12_felled (a0 : Nat) (q_woods : Nat) (q_ends : Nat) (q_text : Nat) (q_depths : Nat) (q_tune : Nat) (q_far : Nat) (q_books : Nat) (q_told : Nat) (q_years : Nat) (q_months : Nat) (q_ring : Nat) (q_wood : Nat) (q_sheets : Nat) (q_marsh : Nat) (q_oldest : Nat) (q_youngest : Nat) (q_knowns : Nat) (q_known : Nat) (q_weight : Nat) (q_chance : Nat) (q_digs : Nat) (q_draft : Nat) (q_isKept : Nat) (cA : Nat → ClassId) (s_trace : Int64) (s_typed : Int32) (s_earliest : Int32) (s_latest : Int32) (s_firstYear : Int32) (s_rings : Int32) (s_woods : Nat → Int32) (s_ends : Nat → Int32) : va_W := [(a0, .inr (12, [.long s_trace, .ref q_text, .int s_typed, .ref q_depths, .ref q_tune, .ref q_far, .ref q_books, .ref q_told, .int s_earliest, .int s_latest, .ref q_years, .ref q_months, .int s_firstYear, .int s_rings, .ref q_ring, .ref q_woods, .ref q_ends, .ref q_wood, .ref q_sheets, .ref q_marsh, .ref q_oldest, .ref q_youngest, .ref q_knowns, .ref q_known, .ref q_weight, .ref q_chance, .ref q_digs, .ref q_draft, .ref q_isKept])), (q_woods, .inl (cA 1, 4, .inl s_woods)), (q_ends, .inl (cA 1, 4, .inl s_ends))]
theorem hn_X12_felled_X12 : ∀ w ∈ u_ws RX12 TX12 29, w ∈ wsX12_felled := by decide +kernel
theorem hw_X12_felled_f38 : Cond.fieldLink RX12 38 "OrphanWaveModel" "woods" "[I" ∈ wsX12_felled := by decide +kernel
theorem hw_X12_felled_f41 : Cond.fieldLink RX12 41 "OrphanWaveModel" "ends" "[I" ∈ wsX12_felled := by decide +kernel

def f_X12_felled (x1 : Int32) (x2 : Int32) (s_woods : Nat → Int32) (s_ends : Nat → Int32) : Option ((Int32) × (Nat → Int32) × (Nat → Int32)) :=
  pcl (f_X12_isWood x1) (fun r_1 => (
  pbr (r_1 = 0)
    (some ((-1 : Int32), s_woods, s_ends))
    (pcl (f_X12_in x2 (0 : Int32) (1 : Int32)) (fun r_4 => (
    pbr (r_4 = 0)
      (some ((-1 : Int32), s_woods, s_ends))
      (pgd (pin x1 4) (
      plt ((s_woods x1.toNatClampNeg) : Int32) (fun x3_8 => (
      plt (upd s_woods x1.toNatClampNeg (0 : Int32) : Nat → Int32) (fun f_9 => (
      plt (upd s_ends x1.toNatClampNeg x2 : Nat → Int32) (fun f_10 => (
      some (x3_8, f_9, f_10))))))))))))))

set_option maxRecDepth 100000 in
set_option maxHeartbeats 4000000 in
theorem ct_X12_felled (l : Launch) (D : va_G) (cA : Nat → ClassId) (x1 : Int32) (x2 : Int32) (a0 : Nat) (q_woods : Nat) (q_ends : Nat) (q_text : Nat) (q_depths : Nat) (q_tune : Nat) (q_far : Nat) (q_books : Nat) (q_told : Nat) (q_years : Nat) (q_months : Nat) (q_ring : Nat) (q_wood : Nat) (q_sheets : Nat) (q_marsh : Nat) (q_oldest : Nat) (q_youngest : Nat) (q_knowns : Nat) (q_known : Nat) (q_weight : Nat) (q_chance : Nat) (q_digs : Nat) (q_draft : Nat) (q_isKept : Nat) (s_trace : Int64) (s_typed : Int32) (s_earliest : Int32) (s_latest : Int32) (s_firstYear : Int32) (s_rings : Int32) (s_woods : Nat → Int32) (s_ends : Nat → Int32) (o_r : Int32) (o_woods : Nat → Int32) (o_ends : Nat → Int32) (hf : f_X12_felled x1 x2 s_woods s_ends = some (o_r, o_woods, o_ends)) : CT l yX12_felled wsX12_felled rm_X12_felled D cA [.ref a0, .int x1, .int x2] (w_X12_felled a0 q_woods q_ends q_text q_depths q_tune q_far q_books q_told q_years q_months q_ring q_wood q_sheets q_marsh q_oldest q_youngest q_knowns q_known q_weight q_chance q_digs q_draft q_isKept cA s_trace s_typed s_earliest s_latest s_firstYear s_rings s_woods s_ends) (w_X12_felled a0 q_woods q_ends q_text q_depths q_tune q_far q_books q_told q_years q_months q_ring q_wood q_sheets q_marsh q_oldest q_youngest q_knowns q_known q_weight q_chance q_digs q_draft q_isKept cA s_trace s_typed s_earliest s_latest s_firstYear s_rings o_woods o_ends) (some (.int o_r)) := by
  refine CT.ofW (cc := cX12_felled) (maxL := 4) (ret := (some .int)) (by decide +kernel) rfl (Nat.le_of_ble_eq_true rfl) ?_
  intro p e s m below meth c A C0 hA hP hD ls hl
  have C0 : MX p s m [.ref a0, .int x1, .int x2].toArray meth c cX12_felled 4 wsX12_felled RX12 (some .int) D cA := C0
  have hl : lv_has ls 4 [(0, .ref a0), (1, .int x1), (2, .int x2)] := hl
  obtain ⟨hx, hb, hml, hown, hts, hr, hlocks, hX⟩ := id C0
  have hK := hX.1
  have hN := hX.2
  have hS : va_S A s.heap s.heap [] := va_S.rf
  unfold f_X12_felled at hf
  refine lv_iload_n hx hb dX12_felled_0 rfl (lv_at hl 1 rfl) ?_
  obtain ⟨r_1, hc_2, hf⟩ := pcl_e hf
  refine m_callS2 (As := [.int x1]) (rest := []) ⟨hx, hb, hml, hown, hts⟩ hX (ct_X12_isWood l D cA x1 r_1 hc_2) (va_cwS 1 hts gX12_felled_X12_isWood rfl rfl rfl (by decide +kernel) ⟨Nat.le_of_ble_eq_true rfl, Nat.le_of_ble_eq_true rfl⟩) hP hD hS hA [] [0, 1, 2] 3 (by decide) rfl rfl (WS' := (w_X12_felled a0 q_woods q_ends q_text q_depths q_tune q_far q_books q_told q_years q_months q_ring q_wood q_sheets q_marsh q_oldest q_youngest q_knowns q_known q_weight q_chance q_digs q_draft q_isKept cA s_trace s_typed s_earliest s_latest s_firstYear s_rings s_woods s_ends)) (WR := [(a0, .inr (12, [.long s_trace, .ref q_text, .int s_typed, .ref q_depths, .ref q_tune, .ref q_far, .ref q_books, .ref q_told, .int s_earliest, .int s_latest, .ref q_years, .ref q_months, .int s_firstYear, .int s_rings, .ref q_ring, .ref q_woods, .ref q_ends, .ref q_wood, .ref q_sheets, .ref q_marsh, .ref q_oldest, .ref q_youngest, .ref q_knowns, .ref q_known, .ref q_weight, .ref q_chance, .ref q_digs, .ref q_draft, .ref q_isKept])), (q_woods, .inl (cA 1, 4, .inl s_woods)), (q_ends, .inl (cA 1, 4, .inl s_ends))]) rfl rfl rfl rfl (by decide) (by decide) rfl hl.1 rfl (st' := [.int r_1]) rfl (Nat.le_of_ble_eq_true rfl) ⟨Nat.zero_le _, Nat.zero_le _⟩ dX12_felled_1 (fun H locs hP hD hS => ?_)
  refine lv_if_eq (tgt := 16) hx hb dX12_felled_4 (by decide) (fun c_3 => ?_) (fun c_3 => ?_)
  · have hf := pbr_t c_3 hf
    refine lv_iconst (v := (-1 : Int32)) hx hb dX12_felled_16 (by decide) ?_
    obtain ⟨rfl, rfl, rfl⟩ := pe3 hf
    exact m_iret hx hb hr hlocks hP hS dX12_felled_17
  have hf := pbr_f c_3 hf
  refine lv_iload_n hx hb dX12_felled_7 rfl (lv_at hl 2 rfl) ?_
  refine lv_iconst (v := (0 : Int32)) hx hb dX12_felled_8 (by decide) ?_
  refine lv_iconst (v := (1 : Int32)) hx hb dX12_felled_9 (by decide) ?_
  obtain ⟨r_4, hc_5, hf⟩ := pcl_e hf
  refine m_callS2 (As := [.int x2, .int (0 : Int32), .int (1 : Int32)]) (rest := []) ⟨hx, hb, hml, hown, hts⟩ hX (ct_X12_in l D cA x2 (0 : Int32) (1 : Int32) r_4 hc_5) (va_cwS 3 hts gX12_felled_X12_in rfl rfl rfl (by decide +kernel) ⟨Nat.le_of_ble_eq_true rfl, Nat.le_of_ble_eq_true rfl⟩) hP hD hS hA [] [0, 1, 2] 3 (by decide) rfl rfl (WS' := (w_X12_felled a0 q_woods q_ends q_text q_depths q_tune q_far q_books q_told q_years q_months q_ring q_wood q_sheets q_marsh q_oldest q_youngest q_knowns q_known q_weight q_chance q_digs q_draft q_isKept cA s_trace s_typed s_earliest s_latest s_firstYear s_rings s_woods s_ends)) (WR := [(a0, .inr (12, [.long s_trace, .ref q_text, .int s_typed, .ref q_depths, .ref q_tune, .ref q_far, .ref q_books, .ref q_told, .int s_earliest, .int s_latest, .ref q_years, .ref q_months, .int s_firstYear, .int s_rings, .ref q_ring, .ref q_woods, .ref q_ends, .ref q_wood, .ref q_sheets, .ref q_marsh, .ref q_oldest, .ref q_youngest, .ref q_knowns, .ref q_known, .ref q_weight, .ref q_chance, .ref q_digs, .ref q_draft, .ref q_isKept])), (q_woods, .inl (cA 1, 4, .inl s_woods)), (q_ends, .inl (cA 1, 4, .inl s_ends))]) rfl rfl rfl rfl (by decide) (by decide) rfl hl.1 rfl (st' := [.int r_4]) rfl (Nat.le_of_ble_eq_true rfl) ⟨Nat.zero_le _, Nat.zero_le _⟩ dX12_felled_10 (fun H locs hP hD hS => ?_)
  refine lv_if_ne (tgt := 18) hx hb dX12_felled_13 (by decide) (fun c_6 => ?_) (fun c_6 => ?_)
  · have hf := pbr_f c_6 hf
    refine lv_aload_n hx hb dX12_felled_18 rfl (lv_at hl 0 rfl) ?_
    refine va_get (D := D) (ci := 12) (v := .ref q_woods) (C := RX12) (T := TX12) (N := 29) hx hb hts hn_X12_felled_X12 hown hK hP 0 rfl rfl 15 (by decide) (hts _ hw_X12_felled_f38) (fun _ h9 => h9) rfl dX12_felled_19 ?_
    refine lv_iload_n hx hb dX12_felled_22 rfl (lv_at hl 1 rfl) ?_
    obtain ⟨g_7, hf⟩ := pgd_e hf
    refine va_iald hx hb hK hP 1 1 rfl rfl g_7 dX12_felled_23 ?_
    refine lv_topi (fun x3_8 ex3_8 => ?_)
    have hf := plt_e ex3_8 hf
    refine lv_istore_n (lv' := [(3, .int x3_8), (0, .ref a0), (1, .int x1), (2, .int x2)]) hx hb dX12_felled_24 rfl hl (by decide) rfl (fun ls hl => ?_)
    refine lv_aload_n hx hb dX12_felled_25 rfl (lv_at hl 1 rfl) ?_
    refine va_get (D := D) (ci := 12) (v := .ref q_woods) (C := RX12) (T := TX12) (N := 29) hx hb hts hn_X12_felled_X12 hown hK hP 0 rfl rfl 15 (by decide) (hts _ hw_X12_felled_f38) (fun _ h9 => h9) rfl dX12_felled_26 ?_
    refine lv_iload_n hx hb dX12_felled_29 rfl (lv_at hl 2 rfl) ?_
    refine lv_iconst (v := (0 : Int32)) hx hb dX12_felled_30 (by decide) ?_
    refine va_iast hx hb hK hP hD hS 1 1 rfl rfl g_7 dX12_felled_31 (fun H locs hP hD hS => ?_)
    obtain ⟨f_9, ef_9⟩ : ∃ z : Nat → Int32, z = upd s_woods x1.toNatClampNeg (0 : Int32) := ⟨_, rfl⟩
    have hf := plt_e ef_9 hf
    have hP : va_P D vwCl (w_X12_felled a0 q_woods q_ends q_text q_depths q_tune q_far q_books q_told q_years q_months q_ring q_wood q_sheets q_marsh q_oldest q_youngest q_knowns q_known q_weight q_chance q_digs q_draft q_isKept cA s_trace s_typed s_earliest s_latest s_firstYear s_rings f_9 s_ends) H := by rw [ef_9]; exact hP
    have hD : va_D A (w_X12_felled a0 q_woods q_ends q_text q_depths q_tune q_far q_books q_told q_years q_months q_ring q_wood q_sheets q_marsh q_oldest q_youngest q_knowns q_known q_weight q_chance q_digs q_draft q_isKept cA s_trace s_typed s_earliest s_latest s_firstYear s_rings f_9 s_ends) := by rw [ef_9]; exact hD
    refine lv_aload_n hx hb dX12_felled_32 rfl (lv_at hl 1 rfl) ?_
    refine va_get (D := D) (ci := 12) (v := .ref q_ends) (C := RX12) (T := TX12) (N := 29) hx hb hts hn_X12_felled_X12 hown hK hP 0 rfl rfl 16 (by decide) (hts _ hw_X12_felled_f41) (fun _ h9 => h9) rfl dX12_felled_33 ?_
    refine lv_iload_n hx hb dX12_felled_36 rfl (lv_at hl 2 rfl) ?_
    refine lv_iload_n hx hb dX12_felled_37 rfl (lv_at hl 3 rfl) ?_
    refine va_iast hx hb hK hP hD hS 2 1 rfl rfl g_7 dX12_felled_38 (fun H locs hP hD hS => ?_)
    obtain ⟨f_10, ef_10⟩ : ∃ z : Nat → Int32, z = upd s_ends x1.toNatClampNeg x2 := ⟨_, rfl⟩
    have hf := plt_e ef_10 hf
    have hP : va_P D vwCl (w_X12_felled a0 q_woods q_ends q_text q_depths q_tune q_far q_books q_told q_years q_months q_ring q_wood q_sheets q_marsh q_oldest q_youngest q_knowns q_known q_weight q_chance q_digs q_draft q_isKept cA s_trace s_typed s_earliest s_latest s_firstYear s_rings f_9 f_10) H := by rw [ef_10]; exact hP
    have hD : va_D A (w_X12_felled a0 q_woods q_ends q_text q_depths q_tune q_far q_books q_told q_years q_months q_ring q_wood q_sheets q_marsh q_oldest q_youngest q_knowns q_known q_weight q_chance q_digs q_draft q_isKept cA s_trace s_typed s_earliest s_latest s_firstYear s_rings f_9 f_10) := by rw [ef_10]; exact hD
    refine lv_iload_n hx hb dX12_felled_39 rfl (lv_at hl 0 rfl) ?_
    obtain ⟨rfl, rfl, rfl⟩ := pe3 hf
    exact m_iret hx hb hr hlocks hP hS dX12_felled_40
  have hf := pbr_t c_6 hf
  refine lv_iconst (v := (-1 : Int32)) hx hb dX12_felled_16 (by decide) ?_
  obtain ⟨rfl, rfl, rfl⟩ := pe3 hf
  exact m_iret hx hb hr hlocks hP hS dX12_felled_17

/-! ===== OrphanWaveModel.likeOf(II)I ===== -/
abbrev rm_X12_likeOf : Room := { frames := 0, cells := 0, slots := 0, locals := 0 }
abbrev w_X12_likeOf (a0 : Nat) (q_woods : Nat) (q_wood : Nat) (q_ring : Nat) (q_text : Nat) (q_depths : Nat) (q_tune : Nat) (q_far : Nat) (q_books : Nat) (q_told : Nat) (q_years : Nat) (q_months : Nat) (q_ends : Nat) (q_sheets : Nat) (q_marsh : Nat) (q_oldest : Nat) (q_youngest : Nat) (q_knowns : Nat) (q_known : Nat) (q_weight : Nat) (q_chance : Nat) (q_digs : Nat) (q_draft : Nat) (q_isKept : Nat) (cA : Nat → ClassId) (s_trace : Int64) (s_typed : Int32) (s_earliest : Int32) (s_latest : Int32) (s_firstYear : Int32) (s_rings : Int32) (s_woods : Nat → Int32) (s_wood : Nat → Int32) (s_ring : Nat → Int32) : va_W := [(a0, .inr (12, [.long s_trace, .ref q_text, .int s_typed, .ref q_depths, .ref q_tune, .ref q_far, .ref q_books, .ref q_told, .int s_earliest, .int s_latest, .ref q_years, .ref q_months, .int s_firstYear, .int s_rings, .ref q_ring, .ref q_woods, .ref q_ends, .ref q_wood, .ref q_sheets, .ref q_marsh, .ref q_oldest, .ref q_youngest, .ref q_knowns, .ref q_known, .ref q_weight, .ref q_chance, .ref q_digs, .ref q_draft, .ref q_isKept])), (q_woods, .inl (cA 1, 4, .inl s_woods)), (q_wood, .inl (cA 1, 120, .inl s_wood)), (q_ring, .inl (cA 1, 60, .inl s_ring))]
theorem hn_X12_likeOf_X12 : ∀ w ∈ u_ws RX12 TX12 29, w ∈ wsX12_likeOf := by decide +kernel
theorem hw_X12_likeOf_f38 : Cond.fieldLink RX12 38 "OrphanWaveModel" "woods" "[I" ∈ wsX12_likeOf := by decide +kernel
theorem hw_X12_likeOf_f44 : Cond.fieldLink RX12 44 "OrphanWaveModel" "wood" "[I" ∈ wsX12_likeOf := by decide +kernel
theorem hw_X12_likeOf_f35 : Cond.fieldLink RX12 35 "OrphanWaveModel" "ring" "[I" ∈ wsX12_likeOf := by decide +kernel

def f_X12_likeOf_120 (r5 : (Int32) → (Int32) → Option ((Int32))) (s_woods : Nat → Int32) (s_wood : Nat → Int32) (s_ring : Nat → Int32) (x1 : Int32) (x2 : Int32) (x4 : Int32) (z0 : Int32) (z1 : Int32) : Option ((Int32)) :=
  plt ((z0 + z1) : Int32) (fun x3_1 => (
  plt (x4 + (1 : Int32) : Int32) (fun x4_2 => (
  r5 x3_1 x4_2))))

set_option maxRecDepth 100000 in
set_option maxHeartbeats 4000000 in
theorem k_X12_likeOf_120 {p : Program} {l : Launch} {e : Env} {s : State} {m : MethodId} {args : Array Value} {below : List Frame} {meth : Method} {c : Code} {A : Nat → Prop} {D : va_G} {cA : Nat → ClassId} (C0 : MX p s m args meth c cX12_likeOf 7 wsX12_likeOf RX12 (some .int) D cA) (hA : ∀ q, s.heap.size ≤ q → A q) {a0 : Nat} {q_woods : Nat} {q_wood : Nat} {q_ring : Nat} {q_text : Nat} {q_depths : Nat} {q_tune : Nat} {q_far : Nat} {q_books : Nat} {q_told : Nat} {q_years : Nat} {q_months : Nat} {q_ends : Nat} {q_sheets : Nat} {q_marsh : Nat} {q_oldest : Nat} {q_youngest : Nat} {q_knowns : Nat} {q_known : Nat} {q_weight : Nat} {q_chance : Nat} {q_digs : Nat} {q_draft : Nat} {q_isKept : Nat} {s_trace : Int64} {s_typed : Int32} {s_earliest : Int32} {s_latest : Int32} {s_firstYear : Int32} {s_rings : Int32} {s_woods : Nat → Int32} {s_wood : Nat → Int32} {s_ring : Nat → Int32} {x1 : Int32} {x2 : Int32} {o_r : Int32} {r5 : (Int32) → (Int32) → Option ((Int32))} (hr5 : ∀ (x3 : Int32) (x4 : Int32), r5 x3 x4 = some o_r → ∀ (H : Heap) (locs : List Loc), va_P D vwCl (w_X12_likeOf a0 q_woods q_wood q_ring q_text q_depths q_tune q_far q_books q_told q_years q_months q_ends q_sheets q_marsh q_oldest q_youngest q_knowns q_known q_weight q_chance q_digs q_draft q_isKept cA s_trace s_typed s_earliest s_latest s_firstYear s_rings s_woods s_wood s_ring) H → va_D A (w_X12_likeOf a0 q_woods q_wood q_ring q_text q_depths q_tune q_far q_books q_told q_years q_months q_ends q_sheets q_marsh q_oldest q_youngest q_knowns q_known q_weight q_chance q_digs q_draft q_isKept cA s_trace s_typed s_earliest s_latest s_firstYear s_rings s_woods s_wood s_ring) → va_S A s.heap H locs → ∀ ls : Array Slot, lv_has ls 7 [(0, .ref a0), (1, .int x1), (2, .int x2), (3, .int x3), (4, .int x4)] → W p l e rm_X12_likeOf s m args below meth c H locs 0 0 (MQ below (CQ D (some (.int o_r)) (w_X12_likeOf a0 q_woods q_wood q_ring q_text q_depths q_tune q_far q_books q_told q_years q_months q_ends q_sheets q_marsh q_oldest q_youngest q_knowns q_known q_weight q_chance q_digs q_draft q_isKept cA s_trace s_typed s_earliest s_latest s_firstYear s_rings s_woods s_wood s_ring) A) args s 0 0 A) (F0 m 5 ls [])) : ∀ (x4 : Int32) (z0 : Int32) (z1 : Int32), f_X12_likeOf_120 r5 s_woods s_wood s_ring x1 x2 x4 z0 z1 = some o_r → ∀ (H : Heap) (locs : List Loc), va_P D vwCl (w_X12_likeOf a0 q_woods q_wood q_ring q_text q_depths q_tune q_far q_books q_told q_years q_months q_ends q_sheets q_marsh q_oldest q_youngest q_knowns q_known q_weight q_chance q_digs q_draft q_isKept cA s_trace s_typed s_earliest s_latest s_firstYear s_rings s_woods s_wood s_ring) H → va_D A (w_X12_likeOf a0 q_woods q_wood q_ring q_text q_depths q_tune q_far q_books q_told q_years q_months q_ends q_sheets q_marsh q_oldest q_youngest q_knowns q_known q_weight q_chance q_digs q_draft q_isKept cA s_trace s_typed s_earliest s_latest s_firstYear s_rings s_woods s_wood s_ring) → va_S A s.heap H locs → ∀ ls : Array Slot, lv_has ls 7 [(0, .ref a0), (1, .int x1), (2, .int x2), (4, .int x4)] → W p l e rm_X12_likeOf s m args below meth c H locs 0 0 (MQ below (CQ D (some (.int o_r)) (w_X12_likeOf a0 q_woods q_wood q_ring q_text q_depths q_tune q_far q_books q_told q_years q_months q_ends q_sheets q_marsh q_oldest q_youngest q_knowns q_known q_weight q_chance q_digs q_draft q_isKept cA s_trace s_typed s_earliest s_latest s_firstYear s_rings s_woods s_wood s_ring) A) args s 0 0 A) (F0 m 120 ls [.int z1, .int z0]) := by
  obtain ⟨hx, hb, hml, hown, hts, hr, hlocks, hX⟩ := C0
  have hK := hX.1
  have hN := hX.2
  intro x4 z0 z1 hf H locs hP hD hS ls hl
  unfold f_X12_likeOf_120 at hf
  refine lv_iadd hx hb dX12_likeOf_120 ?_
  refine lv_topi (fun x3_1 ex3_1 => ?_)
  have hf := plt_e ex3_1 hf
  refine lv_istore_n (lv' := [(3, .int x3_1), (0, .ref a0), (1, .int x1), (2, .int x2), (4, .int x4)]) hx hb dX12_likeOf_121 rfl hl (by decide) rfl (fun ls hl => ?_)
  obtain ⟨x4_2, ex4_2⟩ : ∃ z : Int32, z = x4 + (1 : Int32) := ⟨_, rfl⟩
  have hf := plt_e ex4_2 hf
  refine lv_iinc (v := x4_2) (lv' := [(4, .int x4_2), (3, .int x3_1), (0, .ref a0), (1, .int x1), (2, .int x2)]) hx hb dX12_likeOf_122 hl (k := 4) rfl (by rw [ex4_2]; rfl) (by decide) rfl (fun ls hl => ?_)
  refine lv_goto (tgt := 5) hx hb dX12_likeOf_125 (by decide) ?_
  exact hr5 x3_1 x4_2 hf _ _ hP hD hS ls (lv_sub hl [2, 3, 4, 1, 0] rfl)

def f_X12_likeOf_119 (r5 : (Int32) → (Int32) → Option ((Int32))) (s_woods : Nat → Int32) (s_wood : Nat → Int32) (s_ring : Nat → Int32) (x1 : Int32) (x2 : Int32) (x4 : Int32) (z0 : Int32) : Option ((Int32)) :=
  f_X12_likeOf_120 r5 s_woods s_wood s_ring x1 x2 x4 z0 (0 : Int32)

set_option maxRecDepth 100000 in
set_option maxHeartbeats 4000000 in
theorem k_X12_likeOf_119 {p : Program} {l : Launch} {e : Env} {s : State} {m : MethodId} {args : Array Value} {below : List Frame} {meth : Method} {c : Code} {A : Nat → Prop} {D : va_G} {cA : Nat → ClassId} (C0 : MX p s m args meth c cX12_likeOf 7 wsX12_likeOf RX12 (some .int) D cA) (hA : ∀ q, s.heap.size ≤ q → A q) {a0 : Nat} {q_woods : Nat} {q_wood : Nat} {q_ring : Nat} {q_text : Nat} {q_depths : Nat} {q_tune : Nat} {q_far : Nat} {q_books : Nat} {q_told : Nat} {q_years : Nat} {q_months : Nat} {q_ends : Nat} {q_sheets : Nat} {q_marsh : Nat} {q_oldest : Nat} {q_youngest : Nat} {q_knowns : Nat} {q_known : Nat} {q_weight : Nat} {q_chance : Nat} {q_digs : Nat} {q_draft : Nat} {q_isKept : Nat} {s_trace : Int64} {s_typed : Int32} {s_earliest : Int32} {s_latest : Int32} {s_firstYear : Int32} {s_rings : Int32} {s_woods : Nat → Int32} {s_wood : Nat → Int32} {s_ring : Nat → Int32} {x1 : Int32} {x2 : Int32} {o_r : Int32} {r5 : (Int32) → (Int32) → Option ((Int32))} (hr5 : ∀ (x3 : Int32) (x4 : Int32), r5 x3 x4 = some o_r → ∀ (H : Heap) (locs : List Loc), va_P D vwCl (w_X12_likeOf a0 q_woods q_wood q_ring q_text q_depths q_tune q_far q_books q_told q_years q_months q_ends q_sheets q_marsh q_oldest q_youngest q_knowns q_known q_weight q_chance q_digs q_draft q_isKept cA s_trace s_typed s_earliest s_latest s_firstYear s_rings s_woods s_wood s_ring) H → va_D A (w_X12_likeOf a0 q_woods q_wood q_ring q_text q_depths q_tune q_far q_books q_told q_years q_months q_ends q_sheets q_marsh q_oldest q_youngest q_knowns q_known q_weight q_chance q_digs q_draft q_isKept cA s_trace s_typed s_earliest s_latest s_firstYear s_rings s_woods s_wood s_ring) → va_S A s.heap H locs → ∀ ls : Array Slot, lv_has ls 7 [(0, .ref a0), (1, .int x1), (2, .int x2), (3, .int x3), (4, .int x4)] → W p l e rm_X12_likeOf s m args below meth c H locs 0 0 (MQ below (CQ D (some (.int o_r)) (w_X12_likeOf a0 q_woods q_wood q_ring q_text q_depths q_tune q_far q_books q_told q_years q_months q_ends q_sheets q_marsh q_oldest q_youngest q_knowns q_known q_weight q_chance q_digs q_draft q_isKept cA s_trace s_typed s_earliest s_latest s_firstYear s_rings s_woods s_wood s_ring) A) args s 0 0 A) (F0 m 5 ls [])) : ∀ (x4 : Int32) (z0 : Int32), f_X12_likeOf_119 r5 s_woods s_wood s_ring x1 x2 x4 z0 = some o_r → ∀ (H : Heap) (locs : List Loc), va_P D vwCl (w_X12_likeOf a0 q_woods q_wood q_ring q_text q_depths q_tune q_far q_books q_told q_years q_months q_ends q_sheets q_marsh q_oldest q_youngest q_knowns q_known q_weight q_chance q_digs q_draft q_isKept cA s_trace s_typed s_earliest s_latest s_firstYear s_rings s_woods s_wood s_ring) H → va_D A (w_X12_likeOf a0 q_woods q_wood q_ring q_text q_depths q_tune q_far q_books q_told q_years q_months q_ends q_sheets q_marsh q_oldest q_youngest q_knowns q_known q_weight q_chance q_digs q_draft q_isKept cA s_trace s_typed s_earliest s_latest s_firstYear s_rings s_woods s_wood s_ring) → va_S A s.heap H locs → ∀ ls : Array Slot, lv_has ls 7 [(0, .ref a0), (1, .int x1), (2, .int x2), (4, .int x4)] → W p l e rm_X12_likeOf s m args below meth c H locs 0 0 (MQ below (CQ D (some (.int o_r)) (w_X12_likeOf a0 q_woods q_wood q_ring q_text q_depths q_tune q_far q_books q_told q_years q_months q_ends q_sheets q_marsh q_oldest q_youngest q_knowns q_known q_weight q_chance q_digs q_draft q_isKept cA s_trace s_typed s_earliest s_latest s_firstYear s_rings s_woods s_wood s_ring) A) args s 0 0 A) (F0 m 119 ls [.int z0]) := by
  obtain ⟨hx, hb, hml, hown, hts, hr, hlocks, hX⟩ := C0
  have hK := hX.1
  have hN := hX.2
  intro x4 z0 hf H locs hP hD hS ls hl
  unfold f_X12_likeOf_119 at hf
  refine lv_iconst (v := (0 : Int32)) hx hb dX12_likeOf_119 (by decide) ?_
  exact k_X12_likeOf_120 ⟨hx, hb, hml, hown, hts, hr, hlocks, hX⟩ hA hr5 x4 z0 (0 : Int32) hf _ _ hP hD hS ls (lv_sub hl [0, 1, 2, 3] rfl)

def f_X12_likeOf_112 (r5 : (Int32) → (Int32) → Option ((Int32))) (s_woods : Nat → Int32) (s_wood : Nat → Int32) (s_ring : Nat → Int32) (x1 : Int32) (x2 : Int32) (x4 : Int32) (z0 : Int32) (z1 : Int32) (z2 : Int32) : Option ((Int32)) :=
  pbr (z1 = z2)
    (f_X12_likeOf_120 r5 s_woods s_wood s_ring x1 x2 x4 z0 (1 : Int32))
    (f_X12_likeOf_119 r5 s_woods s_wood s_ring x1 x2 x4 z0)

set_option maxRecDepth 100000 in
set_option maxHeartbeats 4000000 in
theorem k_X12_likeOf_112 {p : Program} {l : Launch} {e : Env} {s : State} {m : MethodId} {args : Array Value} {below : List Frame} {meth : Method} {c : Code} {A : Nat → Prop} {D : va_G} {cA : Nat → ClassId} (C0 : MX p s m args meth c cX12_likeOf 7 wsX12_likeOf RX12 (some .int) D cA) (hA : ∀ q, s.heap.size ≤ q → A q) {a0 : Nat} {q_woods : Nat} {q_wood : Nat} {q_ring : Nat} {q_text : Nat} {q_depths : Nat} {q_tune : Nat} {q_far : Nat} {q_books : Nat} {q_told : Nat} {q_years : Nat} {q_months : Nat} {q_ends : Nat} {q_sheets : Nat} {q_marsh : Nat} {q_oldest : Nat} {q_youngest : Nat} {q_knowns : Nat} {q_known : Nat} {q_weight : Nat} {q_chance : Nat} {q_digs : Nat} {q_draft : Nat} {q_isKept : Nat} {s_trace : Int64} {s_typed : Int32} {s_earliest : Int32} {s_latest : Int32} {s_firstYear : Int32} {s_rings : Int32} {s_woods : Nat → Int32} {s_wood : Nat → Int32} {s_ring : Nat → Int32} {x1 : Int32} {x2 : Int32} {o_r : Int32} {r5 : (Int32) → (Int32) → Option ((Int32))} (hr5 : ∀ (x3 : Int32) (x4 : Int32), r5 x3 x4 = some o_r → ∀ (H : Heap) (locs : List Loc), va_P D vwCl (w_X12_likeOf a0 q_woods q_wood q_ring q_text q_depths q_tune q_far q_books q_told q_years q_months q_ends q_sheets q_marsh q_oldest q_youngest q_knowns q_known q_weight q_chance q_digs q_draft q_isKept cA s_trace s_typed s_earliest s_latest s_firstYear s_rings s_woods s_wood s_ring) H → va_D A (w_X12_likeOf a0 q_woods q_wood q_ring q_text q_depths q_tune q_far q_books q_told q_years q_months q_ends q_sheets q_marsh q_oldest q_youngest q_knowns q_known q_weight q_chance q_digs q_draft q_isKept cA s_trace s_typed s_earliest s_latest s_firstYear s_rings s_woods s_wood s_ring) → va_S A s.heap H locs → ∀ ls : Array Slot, lv_has ls 7 [(0, .ref a0), (1, .int x1), (2, .int x2), (3, .int x3), (4, .int x4)] → W p l e rm_X12_likeOf s m args below meth c H locs 0 0 (MQ below (CQ D (some (.int o_r)) (w_X12_likeOf a0 q_woods q_wood q_ring q_text q_depths q_tune q_far q_books q_told q_years q_months q_ends q_sheets q_marsh q_oldest q_youngest q_knowns q_known q_weight q_chance q_digs q_draft q_isKept cA s_trace s_typed s_earliest s_latest s_firstYear s_rings s_woods s_wood s_ring) A) args s 0 0 A) (F0 m 5 ls [])) : ∀ (x4 : Int32) (z0 : Int32) (z1 : Int32) (z2 : Int32), f_X12_likeOf_112 r5 s_woods s_wood s_ring x1 x2 x4 z0 z1 z2 = some o_r → ∀ (H : Heap) (locs : List Loc), va_P D vwCl (w_X12_likeOf a0 q_woods q_wood q_ring q_text q_depths q_tune q_far q_books q_told q_years q_months q_ends q_sheets q_marsh q_oldest q_youngest q_knowns q_known q_weight q_chance q_digs q_draft q_isKept cA s_trace s_typed s_earliest s_latest s_firstYear s_rings s_woods s_wood s_ring) H → va_D A (w_X12_likeOf a0 q_woods q_wood q_ring q_text q_depths q_tune q_far q_books q_told q_years q_months q_ends q_sheets q_marsh q_oldest q_youngest q_knowns q_known q_weight q_chance q_digs q_draft q_isKept cA s_trace s_typed s_earliest s_latest s_firstYear s_rings s_woods s_wood s_ring) → va_S A s.heap H locs → ∀ ls : Array Slot, lv_has ls 7 [(0, .ref a0), (1, .int x1), (2, .int x2), (4, .int x4)] → W p l e rm_X12_likeOf s m args below meth c H locs 0 0 (MQ below (CQ D (some (.int o_r)) (w_X12_likeOf a0 q_woods q_wood q_ring q_text q_depths q_tune q_far q_books q_told q_years q_months q_ends q_sheets q_marsh q_oldest q_youngest q_knowns q_known q_weight q_chance q_digs q_draft q_isKept cA s_trace s_typed s_earliest s_latest s_firstYear s_rings s_woods s_wood s_ring) A) args s 0 0 A) (F0 m 112 ls [.int z2, .int z1, .int z0]) := by
  obtain ⟨hx, hb, hml, hown, hts, hr, hlocks, hX⟩ := C0
  have hK := hX.1
  have hN := hX.2
  intro x4 z0 z1 z2 hf H locs hP hD hS ls hl
  unfold f_X12_likeOf_112 at hf
  refine lv_icmp_ne (tgt := 119) hx hb dX12_likeOf_112 (by decide) (fun c_1 => ?_) (fun c_1 => ?_)
  · have hf := pbr_f c_1 hf
    exact k_X12_likeOf_119 ⟨hx, hb, hml, hown, hts, hr, hlocks, hX⟩ hA hr5 x4 z0 hf _ _ hP hD hS ls (lv_sub hl [0, 1, 2, 3] rfl)
  have hf := pbr_t c_1 hf
  refine lv_iconst (v := (1 : Int32)) hx hb dX12_likeOf_115 (by decide) ?_
  refine lv_goto (tgt := 120) hx hb dX12_likeOf_116 (by decide) ?_
  exact k_X12_likeOf_120 ⟨hx, hb, hml, hown, hts, hr, hlocks, hX⟩ hA hr5 x4 z0 (1 : Int32) hf _ _ hP hD hS ls (lv_sub hl [0, 1, 2, 3] rfl)

def f_X12_likeOf_102 (r5 : (Int32) → (Int32) → Option ((Int32))) (s_woods : Nat → Int32) (s_wood : Nat → Int32) (s_ring : Nat → Int32) (x1 : Int32) (x2 : Int32) (x4 : Int32) (x6 : Int32) (z0 : Int32) (z1 : Int32) : Option ((Int32)) :=
  pbr (0 ≤ x6)
    (f_X12_likeOf_112 r5 s_woods s_wood s_ring x1 x2 x4 z0 z1 (0 : Int32))
    (f_X12_likeOf_112 r5 s_woods s_wood s_ring x1 x2 x4 z0 z1 (1 : Int32))

set_option maxRecDepth 100000 in
set_option maxHeartbeats 4000000 in
theorem k_X12_likeOf_102 {p : Program} {l : Launch} {e : Env} {s : State} {m : MethodId} {args : Array Value} {below : List Frame} {meth : Method} {c : Code} {A : Nat → Prop} {D : va_G} {cA : Nat → ClassId} (C0 : MX p s m args meth c cX12_likeOf 7 wsX12_likeOf RX12 (some .int) D cA) (hA : ∀ q, s.heap.size ≤ q → A q) {a0 : Nat} {q_woods : Nat} {q_wood : Nat} {q_ring : Nat} {q_text : Nat} {q_depths : Nat} {q_tune : Nat} {q_far : Nat} {q_books : Nat} {q_told : Nat} {q_years : Nat} {q_months : Nat} {q_ends : Nat} {q_sheets : Nat} {q_marsh : Nat} {q_oldest : Nat} {q_youngest : Nat} {q_knowns : Nat} {q_known : Nat} {q_weight : Nat} {q_chance : Nat} {q_digs : Nat} {q_draft : Nat} {q_isKept : Nat} {s_trace : Int64} {s_typed : Int32} {s_earliest : Int32} {s_latest : Int32} {s_firstYear : Int32} {s_rings : Int32} {s_woods : Nat → Int32} {s_wood : Nat → Int32} {s_ring : Nat → Int32} {x1 : Int32} {x2 : Int32} {o_r : Int32} {r5 : (Int32) → (Int32) → Option ((Int32))} (hr5 : ∀ (x3 : Int32) (x4 : Int32), r5 x3 x4 = some o_r → ∀ (H : Heap) (locs : List Loc), va_P D vwCl (w_X12_likeOf a0 q_woods q_wood q_ring q_text q_depths q_tune q_far q_books q_told q_years q_months q_ends q_sheets q_marsh q_oldest q_youngest q_knowns q_known q_weight q_chance q_digs q_draft q_isKept cA s_trace s_typed s_earliest s_latest s_firstYear s_rings s_woods s_wood s_ring) H → va_D A (w_X12_likeOf a0 q_woods q_wood q_ring q_text q_depths q_tune q_far q_books q_told q_years q_months q_ends q_sheets q_marsh q_oldest q_youngest q_knowns q_known q_weight q_chance q_digs q_draft q_isKept cA s_trace s_typed s_earliest s_latest s_firstYear s_rings s_woods s_wood s_ring) → va_S A s.heap H locs → ∀ ls : Array Slot, lv_has ls 7 [(0, .ref a0), (1, .int x1), (2, .int x2), (3, .int x3), (4, .int x4)] → W p l e rm_X12_likeOf s m args below meth c H locs 0 0 (MQ below (CQ D (some (.int o_r)) (w_X12_likeOf a0 q_woods q_wood q_ring q_text q_depths q_tune q_far q_books q_told q_years q_months q_ends q_sheets q_marsh q_oldest q_youngest q_knowns q_known q_weight q_chance q_digs q_draft q_isKept cA s_trace s_typed s_earliest s_latest s_firstYear s_rings s_woods s_wood s_ring) A) args s 0 0 A) (F0 m 5 ls [])) : ∀ (x4 : Int32) (x6 : Int32) (z0 : Int32) (z1 : Int32), f_X12_likeOf_102 r5 s_woods s_wood s_ring x1 x2 x4 x6 z0 z1 = some o_r → ∀ (H : Heap) (locs : List Loc), va_P D vwCl (w_X12_likeOf a0 q_woods q_wood q_ring q_text q_depths q_tune q_far q_books q_told q_years q_months q_ends q_sheets q_marsh q_oldest q_youngest q_knowns q_known q_weight q_chance q_digs q_draft q_isKept cA s_trace s_typed s_earliest s_latest s_firstYear s_rings s_woods s_wood s_ring) H → va_D A (w_X12_likeOf a0 q_woods q_wood q_ring q_text q_depths q_tune q_far q_books q_told q_years q_months q_ends q_sheets q_marsh q_oldest q_youngest q_knowns q_known q_weight q_chance q_digs q_draft q_isKept cA s_trace s_typed s_earliest s_latest s_firstYear s_rings s_woods s_wood s_ring) → va_S A s.heap H locs → ∀ ls : Array Slot, lv_has ls 7 [(0, .ref a0), (1, .int x1), (2, .int x2), (4, .int x4), (6, .int x6)] → W p l e rm_X12_likeOf s m args below meth c H locs 0 0 (MQ below (CQ D (some (.int o_r)) (w_X12_likeOf a0 q_woods q_wood q_ring q_text q_depths q_tune q_far q_books q_told q_years q_months q_ends q_sheets q_marsh q_oldest q_youngest q_knowns q_known q_weight q_chance q_digs q_draft q_isKept cA s_trace s_typed s_earliest s_latest s_firstYear s_rings s_woods s_wood s_ring) A) args s 0 0 A) (F0 m 102 ls [.int z1, .int z0]) := by
  obtain ⟨hx, hb, hml, hown, hts, hr, hlocks, hX⟩ := C0
  have hK := hX.1
  have hN := hX.2
  intro x4 x6 z0 z1 hf H locs hP hD hS ls hl
  unfold f_X12_likeOf_102 at hf
  refine lv_iload hx hb dX12_likeOf_102 (lv_at hl 4 rfl) ?_
  refine lv_if_ge (tgt := 111) hx hb dX12_likeOf_104 (by decide) (fun c_1 => ?_) (fun c_1 => ?_)
  · have hf := pbr_t c_1 hf
    refine lv_iconst (v := (0 : Int32)) hx hb dX12_likeOf_111 (by decide) ?_
    exact k_X12_likeOf_112 ⟨hx, hb, hml, hown, hts, hr, hlocks, hX⟩ hA hr5 x4 z0 z1 (0 : Int32) hf _ _ hP hD hS ls (lv_sub hl [0, 1, 2, 3] rfl)
  have hf := pbr_f c_1 hf
  refine lv_iconst (v := (1 : Int32)) hx hb dX12_likeOf_107 (by decide) ?_
  refine lv_goto (tgt := 112) hx hb dX12_likeOf_108 (by decide) ?_
  exact k_X12_likeOf_112 ⟨hx, hb, hml, hown, hts, hr, hlocks, hX⟩ hA hr5 x4 z0 z1 (1 : Int32) hf _ _ hP hD hS ls (lv_sub hl [0, 1, 2, 3] rfl)

def f_X12_likeOf_89 (r5 : (Int32) → (Int32) → Option ((Int32))) (s_woods : Nat → Int32) (s_wood : Nat → Int32) (s_ring : Nat → Int32) (x1 : Int32) (x2 : Int32) (x4 : Int32) (x5 : Int32) (x6 : Int32) (z0 : Int32) (z1 : Int32) (z2 : Int32) : Option ((Int32)) :=
  pbr (z1 = z2)
    (pbr (0 ≤ x5)
      (f_X12_likeOf_102 r5 s_woods s_wood s_ring x1 x2 x4 x6 z0 (0 : Int32))
      (f_X12_likeOf_102 r5 s_woods s_wood s_ring x1 x2 x4 x6 z0 (1 : Int32)))
    (f_X12_likeOf_119 r5 s_woods s_wood s_ring x1 x2 x4 z0)

set_option maxRecDepth 100000 in
set_option maxHeartbeats 4000000 in
theorem k_X12_likeOf_89 {p : Program} {l : Launch} {e : Env} {s : State} {m : MethodId} {args : Array Value} {below : List Frame} {meth : Method} {c : Code} {A : Nat → Prop} {D : va_G} {cA : Nat → ClassId} (C0 : MX p s m args meth c cX12_likeOf 7 wsX12_likeOf RX12 (some .int) D cA) (hA : ∀ q, s.heap.size ≤ q → A q) {a0 : Nat} {q_woods : Nat} {q_wood : Nat} {q_ring : Nat} {q_text : Nat} {q_depths : Nat} {q_tune : Nat} {q_far : Nat} {q_books : Nat} {q_told : Nat} {q_years : Nat} {q_months : Nat} {q_ends : Nat} {q_sheets : Nat} {q_marsh : Nat} {q_oldest : Nat} {q_youngest : Nat} {q_knowns : Nat} {q_known : Nat} {q_weight : Nat} {q_chance : Nat} {q_digs : Nat} {q_draft : Nat} {q_isKept : Nat} {s_trace : Int64} {s_typed : Int32} {s_earliest : Int32} {s_latest : Int32} {s_firstYear : Int32} {s_rings : Int32} {s_woods : Nat → Int32} {s_wood : Nat → Int32} {s_ring : Nat → Int32} {x1 : Int32} {x2 : Int32} {o_r : Int32} {r5 : (Int32) → (Int32) → Option ((Int32))} (hr5 : ∀ (x3 : Int32) (x4 : Int32), r5 x3 x4 = some o_r → ∀ (H : Heap) (locs : List Loc), va_P D vwCl (w_X12_likeOf a0 q_woods q_wood q_ring q_text q_depths q_tune q_far q_books q_told q_years q_months q_ends q_sheets q_marsh q_oldest q_youngest q_knowns q_known q_weight q_chance q_digs q_draft q_isKept cA s_trace s_typed s_earliest s_latest s_firstYear s_rings s_woods s_wood s_ring) H → va_D A (w_X12_likeOf a0 q_woods q_wood q_ring q_text q_depths q_tune q_far q_books q_told q_years q_months q_ends q_sheets q_marsh q_oldest q_youngest q_knowns q_known q_weight q_chance q_digs q_draft q_isKept cA s_trace s_typed s_earliest s_latest s_firstYear s_rings s_woods s_wood s_ring) → va_S A s.heap H locs → ∀ ls : Array Slot, lv_has ls 7 [(0, .ref a0), (1, .int x1), (2, .int x2), (3, .int x3), (4, .int x4)] → W p l e rm_X12_likeOf s m args below meth c H locs 0 0 (MQ below (CQ D (some (.int o_r)) (w_X12_likeOf a0 q_woods q_wood q_ring q_text q_depths q_tune q_far q_books q_told q_years q_months q_ends q_sheets q_marsh q_oldest q_youngest q_knowns q_known q_weight q_chance q_digs q_draft q_isKept cA s_trace s_typed s_earliest s_latest s_firstYear s_rings s_woods s_wood s_ring) A) args s 0 0 A) (F0 m 5 ls [])) : ∀ (x4 : Int32) (x5 : Int32) (x6 : Int32) (z0 : Int32) (z1 : Int32) (z2 : Int32), f_X12_likeOf_89 r5 s_woods s_wood s_ring x1 x2 x4 x5 x6 z0 z1 z2 = some o_r → ∀ (H : Heap) (locs : List Loc), va_P D vwCl (w_X12_likeOf a0 q_woods q_wood q_ring q_text q_depths q_tune q_far q_books q_told q_years q_months q_ends q_sheets q_marsh q_oldest q_youngest q_knowns q_known q_weight q_chance q_digs q_draft q_isKept cA s_trace s_typed s_earliest s_latest s_firstYear s_rings s_woods s_wood s_ring) H → va_D A (w_X12_likeOf a0 q_woods q_wood q_ring q_text q_depths q_tune q_far q_books q_told q_years q_months q_ends q_sheets q_marsh q_oldest q_youngest q_knowns q_known q_weight q_chance q_digs q_draft q_isKept cA s_trace s_typed s_earliest s_latest s_firstYear s_rings s_woods s_wood s_ring) → va_S A s.heap H locs → ∀ ls : Array Slot, lv_has ls 7 [(0, .ref a0), (1, .int x1), (2, .int x2), (4, .int x4), (5, .int x5), (6, .int x6)] → W p l e rm_X12_likeOf s m args below meth c H locs 0 0 (MQ below (CQ D (some (.int o_r)) (w_X12_likeOf a0 q_woods q_wood q_ring q_text q_depths q_tune q_far q_books q_told q_years q_months q_ends q_sheets q_marsh q_oldest q_youngest q_knowns q_known q_weight q_chance q_digs q_draft q_isKept cA s_trace s_typed s_earliest s_latest s_firstYear s_rings s_woods s_wood s_ring) A) args s 0 0 A) (F0 m 89 ls [.int z2, .int z1, .int z0]) := by
  obtain ⟨hx, hb, hml, hown, hts, hr, hlocks, hX⟩ := C0
  have hK := hX.1
  have hN := hX.2
  intro x4 x5 x6 z0 z1 z2 hf H locs hP hD hS ls hl
  unfold f_X12_likeOf_89 at hf
  refine lv_icmp_ne (tgt := 119) hx hb dX12_likeOf_89 (by decide) (fun c_1 => ?_) (fun c_1 => ?_)
  · have hf := pbr_f c_1 hf
    exact k_X12_likeOf_119 ⟨hx, hb, hml, hown, hts, hr, hlocks, hX⟩ hA hr5 x4 z0 hf _ _ hP hD hS ls (lv_sub hl [0, 1, 2, 3] rfl)
  have hf := pbr_t c_1 hf
  refine lv_iload hx hb dX12_likeOf_92 (lv_at hl 4 rfl) ?_
  refine lv_if_ge (tgt := 101) hx hb dX12_likeOf_94 (by decide) (fun c_2 => ?_) (fun c_2 => ?_)
  · have hf := pbr_t c_2 hf
    refine lv_iconst (v := (0 : Int32)) hx hb dX12_likeOf_101 (by decide) ?_
    exact k_X12_likeOf_102 ⟨hx, hb, hml, hown, hts, hr, hlocks, hX⟩ hA hr5 x4 x6 z0 (0 : Int32) hf _ _ hP hD hS ls (lv_sub hl [0, 1, 2, 3, 5] rfl)
  have hf := pbr_f c_2 hf
  refine lv_iconst (v := (1 : Int32)) hx hb dX12_likeOf_97 (by decide) ?_
  refine lv_goto (tgt := 102) hx hb dX12_likeOf_98 (by decide) ?_
  exact k_X12_likeOf_102 ⟨hx, hb, hml, hown, hts, hr, hlocks, hX⟩ hA hr5 x4 x6 z0 (1 : Int32) hf _ _ hP hD hS ls (lv_sub hl [0, 1, 2, 3, 5] rfl)

def f_X12_likeOf_79 (r5 : (Int32) → (Int32) → Option ((Int32))) (s_woods : Nat → Int32) (s_wood : Nat → Int32) (s_ring : Nat → Int32) (x1 : Int32) (x2 : Int32) (x4 : Int32) (x5 : Int32) (x6 : Int32) (z0 : Int32) (z1 : Int32) : Option ((Int32)) :=
  pbr (x6 ≤ 0)
    (f_X12_likeOf_89 r5 s_woods s_wood s_ring x1 x2 x4 x5 x6 z0 z1 (0 : Int32))
    (f_X12_likeOf_89 r5 s_woods s_wood s_ring x1 x2 x4 x5 x6 z0 z1 (1 : Int32))

set_option maxRecDepth 100000 in
set_option maxHeartbeats 4000000 in
theorem k_X12_likeOf_79 {p : Program} {l : Launch} {e : Env} {s : State} {m : MethodId} {args : Array Value} {below : List Frame} {meth : Method} {c : Code} {A : Nat → Prop} {D : va_G} {cA : Nat → ClassId} (C0 : MX p s m args meth c cX12_likeOf 7 wsX12_likeOf RX12 (some .int) D cA) (hA : ∀ q, s.heap.size ≤ q → A q) {a0 : Nat} {q_woods : Nat} {q_wood : Nat} {q_ring : Nat} {q_text : Nat} {q_depths : Nat} {q_tune : Nat} {q_far : Nat} {q_books : Nat} {q_told : Nat} {q_years : Nat} {q_months : Nat} {q_ends : Nat} {q_sheets : Nat} {q_marsh : Nat} {q_oldest : Nat} {q_youngest : Nat} {q_knowns : Nat} {q_known : Nat} {q_weight : Nat} {q_chance : Nat} {q_digs : Nat} {q_draft : Nat} {q_isKept : Nat} {s_trace : Int64} {s_typed : Int32} {s_earliest : Int32} {s_latest : Int32} {s_firstYear : Int32} {s_rings : Int32} {s_woods : Nat → Int32} {s_wood : Nat → Int32} {s_ring : Nat → Int32} {x1 : Int32} {x2 : Int32} {o_r : Int32} {r5 : (Int32) → (Int32) → Option ((Int32))} (hr5 : ∀ (x3 : Int32) (x4 : Int32), r5 x3 x4 = some o_r → ∀ (H : Heap) (locs : List Loc), va_P D vwCl (w_X12_likeOf a0 q_woods q_wood q_ring q_text q_depths q_tune q_far q_books q_told q_years q_months q_ends q_sheets q_marsh q_oldest q_youngest q_knowns q_known q_weight q_chance q_digs q_draft q_isKept cA s_trace s_typed s_earliest s_latest s_firstYear s_rings s_woods s_wood s_ring) H → va_D A (w_X12_likeOf a0 q_woods q_wood q_ring q_text q_depths q_tune q_far q_books q_told q_years q_months q_ends q_sheets q_marsh q_oldest q_youngest q_knowns q_known q_weight q_chance q_digs q_draft q_isKept cA s_trace s_typed s_earliest s_latest s_firstYear s_rings s_woods s_wood s_ring) → va_S A s.heap H locs → ∀ ls : Array Slot, lv_has ls 7 [(0, .ref a0), (1, .int x1), (2, .int x2), (3, .int x3), (4, .int x4)] → W p l e rm_X12_likeOf s m args below meth c H locs 0 0 (MQ below (CQ D (some (.int o_r)) (w_X12_likeOf a0 q_woods q_wood q_ring q_text q_depths q_tune q_far q_books q_told q_years q_months q_ends q_sheets q_marsh q_oldest q_youngest q_knowns q_known q_weight q_chance q_digs q_draft q_isKept cA s_trace s_typed s_earliest s_latest s_firstYear s_rings s_woods s_wood s_ring) A) args s 0 0 A) (F0 m 5 ls [])) : ∀ (x4 : Int32) (x5 : Int32) (x6 : Int32) (z0 : Int32) (z1 : Int32), f_X12_likeOf_79 r5 s_woods s_wood s_ring x1 x2 x4 x5 x6 z0 z1 = some o_r → ∀ (H : Heap) (locs : List Loc), va_P D vwCl (w_X12_likeOf a0 q_woods q_wood q_ring q_text q_depths q_tune q_far q_books q_told q_years q_months q_ends q_sheets q_marsh q_oldest q_youngest q_knowns q_known q_weight q_chance q_digs q_draft q_isKept cA s_trace s_typed s_earliest s_latest s_firstYear s_rings s_woods s_wood s_ring) H → va_D A (w_X12_likeOf a0 q_woods q_wood q_ring q_text q_depths q_tune q_far q_books q_told q_years q_months q_ends q_sheets q_marsh q_oldest q_youngest q_knowns q_known q_weight q_chance q_digs q_draft q_isKept cA s_trace s_typed s_earliest s_latest s_firstYear s_rings s_woods s_wood s_ring) → va_S A s.heap H locs → ∀ ls : Array Slot, lv_has ls 7 [(0, .ref a0), (1, .int x1), (2, .int x2), (4, .int x4), (5, .int x5), (6, .int x6)] → W p l e rm_X12_likeOf s m args below meth c H locs 0 0 (MQ below (CQ D (some (.int o_r)) (w_X12_likeOf a0 q_woods q_wood q_ring q_text q_depths q_tune q_far q_books q_told q_years q_months q_ends q_sheets q_marsh q_oldest q_youngest q_knowns q_known q_weight q_chance q_digs q_draft q_isKept cA s_trace s_typed s_earliest s_latest s_firstYear s_rings s_woods s_wood s_ring) A) args s 0 0 A) (F0 m 79 ls [.int z1, .int z0]) := by
  obtain ⟨hx, hb, hml, hown, hts, hr, hlocks, hX⟩ := C0
  have hK := hX.1
  have hN := hX.2
  intro x4 x5 x6 z0 z1 hf H locs hP hD hS ls hl
  unfold f_X12_likeOf_79 at hf
  refine lv_iload hx hb dX12_likeOf_79 (lv_at hl 5 rfl) ?_
  refine lv_if_le (tgt := 88) hx hb dX12_likeOf_81 (by decide) (fun c_1 => ?_) (fun c_1 => ?_)
  · have hf := pbr_t c_1 hf
    refine lv_iconst (v := (0 : Int32)) hx hb dX12_likeOf_88 (by decide) ?_
    exact k_X12_likeOf_89 ⟨hx, hb, hml, hown, hts, hr, hlocks, hX⟩ hA hr5 x4 x5 x6 z0 z1 (0 : Int32) hf _ _ hP hD hS ls (lv_sub hl [0, 1, 2, 3, 4, 5] rfl)
  have hf := pbr_f c_1 hf
  refine lv_iconst (v := (1 : Int32)) hx hb dX12_likeOf_84 (by decide) ?_
  refine lv_goto (tgt := 89) hx hb dX12_likeOf_85 (by decide) ?_
  exact k_X12_likeOf_89 ⟨hx, hb, hml, hown, hts, hr, hlocks, hX⟩ hA hr5 x4 x5 x6 z0 z1 (1 : Int32) hf _ _ hP hD hS ls (lv_sub hl [0, 1, 2, 3, 4, 5] rfl)

def f_X12_likeOf_5 (s_woods : Nat → Int32) (s_wood : Nat → Int32) (s_ring : Nat → Int32) (x1 : Int32) (x2 : Int32) : Nat → (Int32) → (Int32) → Option ((Int32))
  | 0, _, _ => none
  | k + 1, x3, x4 =>
    pgd (pin x1 4) (
    pbr ((s_woods x1.toNatClampNeg) ≤ x4)
      (some (x3))
      (pgd (pin (((30 : Int32) * x1) + x4) 120) (
      pgd (pin ((((30 : Int32) * x1) + x4) - (1 : Int32)) 120) (
      plt (((s_wood (((30 : Int32) * x1) + x4).toNatClampNeg) - (s_wood ((((30 : Int32) * x1) + x4) - (1 : Int32)).toNatClampNeg)) : Int32) (fun x5_5 => (
      pgd (pin (x2 + x4) 60) (
      pgd (pin ((x2 + x4) - (1 : Int32)) 60) (
      plt (((s_ring (x2 + x4).toNatClampNeg) - (s_ring ((x2 + x4) - (1 : Int32)).toNatClampNeg)) : Int32) (fun x6_8 => (
      pbr (x5_5 ≤ 0)
        (f_X12_likeOf_79 (f_X12_likeOf_5 s_woods s_wood s_ring x1 x2 k) s_woods s_wood s_ring x1 x2 x4 x5_5 x6_8 x3 (0 : Int32))
        (f_X12_likeOf_79 (f_X12_likeOf_5 s_woods s_wood s_ring x1 x2 k) s_woods s_wood s_ring x1 x2 x4 x5_5 x6_8 x3 (1 : Int32))))))))))))

set_option maxRecDepth 100000 in
set_option maxHeartbeats 4000000 in
theorem k_X12_likeOf_5 {p : Program} {l : Launch} {e : Env} {s : State} {m : MethodId} {args : Array Value} {below : List Frame} {meth : Method} {c : Code} {A : Nat → Prop} {D : va_G} {cA : Nat → ClassId} (C0 : MX p s m args meth c cX12_likeOf 7 wsX12_likeOf RX12 (some .int) D cA) (hA : ∀ q, s.heap.size ≤ q → A q) {a0 : Nat} {q_woods : Nat} {q_wood : Nat} {q_ring : Nat} {q_text : Nat} {q_depths : Nat} {q_tune : Nat} {q_far : Nat} {q_books : Nat} {q_told : Nat} {q_years : Nat} {q_months : Nat} {q_ends : Nat} {q_sheets : Nat} {q_marsh : Nat} {q_oldest : Nat} {q_youngest : Nat} {q_knowns : Nat} {q_known : Nat} {q_weight : Nat} {q_chance : Nat} {q_digs : Nat} {q_draft : Nat} {q_isKept : Nat} {s_trace : Int64} {s_typed : Int32} {s_earliest : Int32} {s_latest : Int32} {s_firstYear : Int32} {s_rings : Int32} {s_woods : Nat → Int32} {s_wood : Nat → Int32} {s_ring : Nat → Int32} {x1 : Int32} {x2 : Int32} {o_r : Int32} : ∀ (k : Nat) (x3 : Int32) (x4 : Int32), f_X12_likeOf_5 s_woods s_wood s_ring x1 x2 k x3 x4 = some o_r → ∀ (H : Heap) (locs : List Loc), va_P D vwCl (w_X12_likeOf a0 q_woods q_wood q_ring q_text q_depths q_tune q_far q_books q_told q_years q_months q_ends q_sheets q_marsh q_oldest q_youngest q_knowns q_known q_weight q_chance q_digs q_draft q_isKept cA s_trace s_typed s_earliest s_latest s_firstYear s_rings s_woods s_wood s_ring) H → va_D A (w_X12_likeOf a0 q_woods q_wood q_ring q_text q_depths q_tune q_far q_books q_told q_years q_months q_ends q_sheets q_marsh q_oldest q_youngest q_knowns q_known q_weight q_chance q_digs q_draft q_isKept cA s_trace s_typed s_earliest s_latest s_firstYear s_rings s_woods s_wood s_ring) → va_S A s.heap H locs → ∀ ls : Array Slot, lv_has ls 7 [(0, .ref a0), (1, .int x1), (2, .int x2), (3, .int x3), (4, .int x4)] → W p l e rm_X12_likeOf s m args below meth c H locs 0 0 (MQ below (CQ D (some (.int o_r)) (w_X12_likeOf a0 q_woods q_wood q_ring q_text q_depths q_tune q_far q_books q_told q_years q_months q_ends q_sheets q_marsh q_oldest q_youngest q_knowns q_known q_weight q_chance q_digs q_draft q_isKept cA s_trace s_typed s_earliest s_latest s_firstYear s_rings s_woods s_wood s_ring) A) args s 0 0 A) (F0 m 5 ls []) := by
  obtain ⟨hx, hb, hml, hown, hts, hr, hlocks, hX⟩ := C0
  have hK := hX.1
  have hN := hX.2
  intro k
  induction k with
  | zero =>
    intro x3 x4 hf
    cases hf
  | succ k ih =>
    intro x3 x4 hf H locs hP hD hS ls hl
    rw [f_X12_likeOf_5] at hf
    refine lv_iload hx hb dX12_likeOf_5 (lv_at hl 4 rfl) ?_
    refine lv_aload_n hx hb dX12_likeOf_7 rfl (lv_at hl 0 rfl) ?_
    refine va_get (D := D) (ci := 12) (v := .ref q_woods) (C := RX12) (T := TX12) (N := 29) hx hb hts hn_X12_likeOf_X12 hown hK hP 0 rfl rfl 15 (by decide) (hts _ hw_X12_likeOf_f38) (fun _ h9 => h9) rfl dX12_likeOf_8 ?_
    refine lv_iload_n hx hb dX12_likeOf_11 rfl (lv_at hl 1 rfl) ?_
    obtain ⟨g_1, hf⟩ := pgd_e hf
    refine va_iald hx hb hK hP 1 1 rfl rfl g_1 dX12_likeOf_12 ?_
    refine lv_icmp_ge (tgt := 128) hx hb dX12_likeOf_13 (by decide) (fun c_2 => ?_) (fun c_2 => ?_)
    · have hf := pbr_t c_2 hf
      refine lv_iload_n hx hb dX12_likeOf_128 rfl (lv_at hl 3 rfl) ?_
      obtain rfl := pe1 hf
      exact m_iret hx hb hr hlocks hP hS dX12_likeOf_129
    have hf := pbr_f c_2 hf
    refine lv_aload_n hx hb dX12_likeOf_16 rfl (lv_at hl 0 rfl) ?_
    refine va_get (D := D) (ci := 12) (v := .ref q_wood) (C := RX12) (T := TX12) (N := 29) hx hb hts hn_X12_likeOf_X12 hown hK hP 0 rfl rfl 17 (by decide) (hts _ hw_X12_likeOf_f44) (fun _ h9 => h9) rfl dX12_likeOf_17 ?_
    refine lv_bipush (v := (30 : Int32)) hx hb dX12_likeOf_20 (by decide) ?_
    refine lv_iload_n hx hb dX12_likeOf_22 rfl (lv_at hl 1 rfl) ?_
    refine lv_imul hx hb dX12_likeOf_23 ?_
    refine lv_iload hx hb dX12_likeOf_24 (lv_at hl 4 rfl) ?_
    refine lv_iadd hx hb dX12_likeOf_26 ?_
    obtain ⟨g_3, hf⟩ := pgd_e hf
    refine va_iald hx hb hK hP 2 1 rfl rfl g_3 dX12_likeOf_27 ?_
    refine lv_aload_n hx hb dX12_likeOf_28 rfl (lv_at hl 0 rfl) ?_
    refine va_get (D := D) (ci := 12) (v := .ref q_wood) (C := RX12) (T := TX12) (N := 29) hx hb hts hn_X12_likeOf_X12 hown hK hP 0 rfl rfl 17 (by decide) (hts _ hw_X12_likeOf_f44) (fun _ h9 => h9) rfl dX12_likeOf_29 ?_
    refine lv_bipush (v := (30 : Int32)) hx hb dX12_likeOf_32 (by decide) ?_
    refine lv_iload_n hx hb dX12_likeOf_34 rfl (lv_at hl 1 rfl) ?_
    refine lv_imul hx hb dX12_likeOf_35 ?_
    refine lv_iload hx hb dX12_likeOf_36 (lv_at hl 4 rfl) ?_
    refine lv_iadd hx hb dX12_likeOf_38 ?_
    refine lv_iconst (v := (1 : Int32)) hx hb dX12_likeOf_39 (by decide) ?_
    refine lv_isub hx hb dX12_likeOf_40 ?_
    obtain ⟨g_4, hf⟩ := pgd_e hf
    refine va_iald hx hb hK hP 2 1 rfl rfl g_4 dX12_likeOf_41 ?_
    refine lv_isub hx hb dX12_likeOf_42 ?_
    refine lv_topi (fun x5_5 ex5_5 => ?_)
    have hf := plt_e ex5_5 hf
    refine lv_istore (lv' := [(5, .int x5_5), (0, .ref a0), (1, .int x1), (2, .int x2), (3, .int x3), (4, .int x4)]) hx hb dX12_likeOf_43 hl (by decide) rfl (fun ls hl => ?_)
    refine lv_aload_n hx hb dX12_likeOf_45 rfl (lv_at hl 1 rfl) ?_
    refine va_get (D := D) (ci := 12) (v := .ref q_ring) (C := RX12) (T := TX12) (N := 29) hx hb hts hn_X12_likeOf_X12 hown hK hP 0 rfl rfl 14 (by decide) (hts _ hw_X12_likeOf_f35) (fun _ h9 => h9) rfl dX12_likeOf_46 ?_
    refine lv_iload_n hx hb dX12_likeOf_49 rfl (lv_at hl 3 rfl) ?_
    refine lv_iload hx hb dX12_likeOf_50 (lv_at hl 5 rfl) ?_
    refine lv_iadd hx hb dX12_likeOf_52 ?_
    obtain ⟨g_6, hf⟩ := pgd_e hf
    refine va_iald hx hb hK hP 3 1 rfl rfl g_6 dX12_likeOf_53 ?_
    refine lv_aload_n hx hb dX12_likeOf_54 rfl (lv_at hl 1 rfl) ?_
    refine va_get (D := D) (ci := 12) (v := .ref q_ring) (C := RX12) (T := TX12) (N := 29) hx hb hts hn_X12_likeOf_X12 hown hK hP 0 rfl rfl 14 (by decide) (hts _ hw_X12_likeOf_f35) (fun _ h9 => h9) rfl dX12_likeOf_55 ?_
    refine lv_iload_n hx hb dX12_likeOf_58 rfl (lv_at hl 3 rfl) ?_
    refine lv_iload hx hb dX12_likeOf_59 (lv_at hl 5 rfl) ?_
    refine lv_iadd hx hb dX12_likeOf_61 ?_
    refine lv_iconst (v := (1 : Int32)) hx hb dX12_likeOf_62 (by decide) ?_
    refine lv_isub hx hb dX12_likeOf_63 ?_
    obtain ⟨g_7, hf⟩ := pgd_e hf
    refine va_iald hx hb hK hP 3 1 rfl rfl g_7 dX12_likeOf_64 ?_
    refine lv_isub hx hb dX12_likeOf_65 ?_
    refine lv_topi (fun x6_8 ex6_8 => ?_)
    have hf := plt_e ex6_8 hf
    refine lv_istore (lv' := [(6, .int x6_8), (5, .int x5_5), (0, .ref a0), (1, .int x1), (2, .int x2), (3, .int x3), (4, .int x4)]) hx hb dX12_likeOf_66 hl (by decide) rfl (fun ls hl => ?_)
    refine lv_iload_n hx hb dX12_likeOf_68 rfl (lv_at hl 5 rfl) ?_
    refine lv_iload hx hb dX12_likeOf_69 (lv_at hl 1 rfl) ?_
    refine lv_if_le (tgt := 78) hx hb dX12_likeOf_71 (by decide) (fun c_9 => ?_) (fun c_9 => ?_)
    · have hf := pbr_t c_9 hf
      refine lv_iconst (v := (0 : Int32)) hx hb dX12_likeOf_78 (by decide) ?_
      exact k_X12_likeOf_79 ⟨hx, hb, hml, hown, hts, hr, hlocks, hX⟩ hA ih x4 x5_5 x6_8 x3 (0 : Int32) hf _ _ hP hD hS ls (lv_sub hl [2, 3, 4, 6, 1, 0] rfl)
    have hf := pbr_f c_9 hf
    refine lv_iconst (v := (1 : Int32)) hx hb dX12_likeOf_74 (by decide) ?_
    refine lv_goto (tgt := 79) hx hb dX12_likeOf_75 (by decide) ?_
    exact k_X12_likeOf_79 ⟨hx, hb, hml, hown, hts, hr, hlocks, hX⟩ hA ih x4 x5_5 x6_8 x3 (1 : Int32) hf _ _ hP hD hS ls (lv_sub hl [2, 3, 4, 6, 1, 0] rfl)

def f_X12_likeOf (x1 : Int32) (x2 : Int32) (s_woods : Nat → Int32) (s_wood : Nat → Int32) (s_ring : Nat → Int32) : Option ((Int32)) :=
  f_X12_likeOf_5 s_woods s_wood s_ring x1 x2 FU (0 : Int32) (1 : Int32)

set_option maxRecDepth 100000 in
set_option maxHeartbeats 4000000 in
theorem ct_X12_likeOf (l : Launch) (D : va_G) (cA : Nat → ClassId) (x1 : Int32) (x2 : Int32) (a0 : Nat) (q_woods : Nat) (q_wood : Nat) (q_ring : Nat) (q_text : Nat) (q_depths : Nat) (q_tune : Nat) (q_far : Nat) (q_books : Nat) (q_told : Nat) (q_years : Nat) (q_months : Nat) (q_ends : Nat) (q_sheets : Nat) (q_marsh : Nat) (q_oldest : Nat) (q_youngest : Nat) (q_knowns : Nat) (q_known : Nat) (q_weight : Nat) (q_chance : Nat) (q_digs : Nat) (q_draft : Nat) (q_isKept : Nat) (s_trace : Int64) (s_typed : Int32) (s_earliest : Int32) (s_latest : Int32) (s_firstYear : Int32) (s_rings : Int32) (s_woods : Nat → Int32) (s_wood : Nat → Int32) (s_ring : Nat → Int32) (o_r : Int32) (hf : f_X12_likeOf x1 x2 s_woods s_wood s_ring = some o_r) : CT l yX12_likeOf wsX12_likeOf rm_X12_likeOf D cA [.ref a0, .int x1, .int x2] (w_X12_likeOf a0 q_woods q_wood q_ring q_text q_depths q_tune q_far q_books q_told q_years q_months q_ends q_sheets q_marsh q_oldest q_youngest q_knowns q_known q_weight q_chance q_digs q_draft q_isKept cA s_trace s_typed s_earliest s_latest s_firstYear s_rings s_woods s_wood s_ring) (w_X12_likeOf a0 q_woods q_wood q_ring q_text q_depths q_tune q_far q_books q_told q_years q_months q_ends q_sheets q_marsh q_oldest q_youngest q_knowns q_known q_weight q_chance q_digs q_draft q_isKept cA s_trace s_typed s_earliest s_latest s_firstYear s_rings s_woods s_wood s_ring) (some (.int o_r)) := by
  refine CT.ofW (cc := cX12_likeOf) (maxL := 7) (ret := (some .int)) (by decide +kernel) rfl (Nat.le_of_ble_eq_true rfl) ?_
  intro p e s m below meth c A C0 hA hP hD ls hl
  have C0 : MX p s m [.ref a0, .int x1, .int x2].toArray meth c cX12_likeOf 7 wsX12_likeOf RX12 (some .int) D cA := C0
  have hl : lv_has ls 7 [(0, .ref a0), (1, .int x1), (2, .int x2)] := hl
  obtain ⟨hx, hb, hml, hown, hts, hr, hlocks, hX⟩ := id C0
  have hK := hX.1
  have hN := hX.2
  have hS : va_S A s.heap s.heap [] := va_S.rf
  unfold f_X12_likeOf at hf
  refine lv_iconst (v := (0 : Int32)) hx hb dX12_likeOf_0 (by decide) ?_
  refine lv_istore_n (lv' := [(3, .int (0 : Int32)), (0, .ref a0), (1, .int x1), (2, .int x2)]) hx hb dX12_likeOf_1 rfl hl (by decide) rfl (fun ls hl => ?_)
  refine lv_iconst (v := (1 : Int32)) hx hb dX12_likeOf_2 (by decide) ?_
  refine lv_istore (lv' := [(4, .int (1 : Int32)), (3, .int (0 : Int32)), (0, .ref a0), (1, .int x1), (2, .int x2)]) hx hb dX12_likeOf_3 hl (by decide) rfl (fun ls hl => ?_)
  exact k_X12_likeOf_5 C0 hA FU (0 : Int32) (1 : Int32) hf _ _ hP hD hS ls (lv_sub hl [2, 3, 4, 1, 0] rfl)
