/-! ===== OrphanWaveModel.isCell(I)Z ===== -/
abbrev rm_X12_isCell : Room := { frames := 1, cells := 0, slots := 0, locals := 22 }
abbrev w_X12_isCell  (cA : Nat → ClassId)  : va_W := []

def f_X12_isCell (x0 : Int32) : Option ((Int32)) :=
  pcl (f_X12_in x0 (0 : Int32) (47 : Int32)) (fun r_1 => (
  pgd (r_1 = 0 ∨ r_1 = 1) (
  some (r_1))))

set_option maxRecDepth 100000 in
set_option maxHeartbeats 4000000 in
theorem ct_X12_isCell (l : Launch) (D : va_G) (cA : Nat → ClassId) (x0 : Int32) (o_r : Int32) (hf : f_X12_isCell x0 = some o_r) : CT l yX12_isCell wsX12_isCell rm_X12_isCell D cA [.int x0] (w_X12_isCell  cA ) (w_X12_isCell  cA ) (some (.int o_r)) := by
  refine CT.ofW (cc := cX12_isCell) (maxL := 1) (ret := (some .boolean)) (by decide +kernel) rfl (Nat.le_of_ble_eq_true rfl) ?_
  intro p e s m below meth c A C0 hA hP hD ls hl
  have C0 : MX p s m [.int x0].toArray meth c cX12_isCell 1 wsX12_isCell RX12 (some .boolean) D cA := C0
  have hl : lv_has ls 1 [(0, .int x0)] := hl
  obtain ⟨hx, hb, hml, hown, hts, hr, hlocks, hX⟩ := id C0
  have hK := hX.1
  have hN := hX.2
  have hS : va_S A s.heap s.heap [] := va_S.rf
  unfold f_X12_isCell at hf
  refine lv_iload_n hx hb dX12_isCell_0 rfl (lv_at hl 0 rfl) ?_
  refine lv_iconst (v := (0 : Int32)) hx hb dX12_isCell_1 (by decide) ?_
  refine lv_bipush (v := (47 : Int32)) hx hb dX12_isCell_2 (by decide) ?_
  obtain ⟨r_1, hc_2, hf⟩ := pcl_e hf
  refine m_callS2 (As := [.int x0, .int (0 : Int32), .int (47 : Int32)]) (rest := []) ⟨hx, hb, hml, hown, hts⟩ hX (ct_X12_in l D cA x0 (0 : Int32) (47 : Int32) r_1 hc_2) (va_cwS 3 hts gX12_isCell_X12_in rfl rfl rfl (by decide +kernel) ⟨Nat.le_of_ble_eq_true rfl, Nat.le_of_ble_eq_true rfl⟩) hP hD hS hA [] [] 0 (by decide) rfl rfl (WS' := (w_X12_isCell  cA )) (WR := []) rfl rfl rfl rfl (by decide) (by decide) rfl hl.1 rfl (st' := [.int r_1]) rfl (Nat.le_of_ble_eq_true rfl) ⟨Nat.zero_le _, Nat.zero_le _⟩ dX12_isCell_4 (fun H locs hP hD hS => ?_)
  obtain ⟨g_3, hf⟩ := pgd_e hf
  obtain rfl := pe1 hf
  exact m_zret g_3 hx hb hr hlocks hP hS dX12_isCell_7

/-! ===== OrphanWaveModel.isSea(I)Z ===== -/
abbrev rm_X12_isSea : Room := { frames := 2, cells := 0, slots := 0, locals := 42 }
abbrev w_X12_isSea (a0 : Nat) (q_depths : Nat) (q_text : Nat) (q_tune : Nat) (q_far : Nat) (q_books : Nat) (q_told : Nat) (q_years : Nat) (q_months : Nat) (q_ring : Nat) (q_woods : Nat) (q_ends : Nat) (q_wood : Nat) (q_sheets : Nat) (q_marsh : Nat) (q_oldest : Nat) (q_youngest : Nat) (q_knowns : Nat) (q_known : Nat) (q_weight : Nat) (q_chance : Nat) (q_digs : Nat) (q_draft : Nat) (q_isKept : Nat) (cA : Nat → ClassId) (s_trace : Int64) (s_typed : Int32) (s_earliest : Int32) (s_latest : Int32) (s_firstYear : Int32) (s_rings : Int32) (s_depths : Nat → Int32) : va_W := [(a0, .inr (12, [.long s_trace, .ref q_text, .int s_typed, .ref q_depths, .ref q_tune, .ref q_far, .ref q_books, .ref q_told, .int s_earliest, .int s_latest, .ref q_years, .ref q_months, .int s_firstYear, .int s_rings, .ref q_ring, .ref q_woods, .ref q_ends, .ref q_wood, .ref q_sheets, .ref q_marsh, .ref q_oldest, .ref q_youngest, .ref q_knowns, .ref q_known, .ref q_weight, .ref q_chance, .ref q_digs, .ref q_draft, .ref q_isKept])), (q_depths, .inl (cA 1, 96, .inl s_depths))]
theorem hn_X12_isSea_X12 : ∀ w ∈ u_ws RX12 TX12 29, w ∈ wsX12_isSea := by decide +kernel
theorem hw_X12_isSea_f13 : Cond.fieldLink RX12 13 "OrphanWaveModel" "depths" "[I" ∈ wsX12_isSea := by decide +kernel

def f_X12_isSea (x1 : Int32) (s_depths : Nat → Int32) : Option ((Int32)) :=
  pcl (f_X12_isCell x1) (fun r_1 => (
  pbr (r_1 = 0)
    (some ((0 : Int32)))
    (pgd (pin x1 96) (
    pbr ((s_depths x1.toNatClampNeg) ≤ 0)
      (some ((0 : Int32)))
      (some ((1 : Int32)))))))

set_option maxRecDepth 100000 in
set_option maxHeartbeats 4000000 in
theorem ct_X12_isSea (l : Launch) (D : va_G) (cA : Nat → ClassId) (x1 : Int32) (a0 : Nat) (q_depths : Nat) (q_text : Nat) (q_tune : Nat) (q_far : Nat) (q_books : Nat) (q_told : Nat) (q_years : Nat) (q_months : Nat) (q_ring : Nat) (q_woods : Nat) (q_ends : Nat) (q_wood : Nat) (q_sheets : Nat) (q_marsh : Nat) (q_oldest : Nat) (q_youngest : Nat) (q_knowns : Nat) (q_known : Nat) (q_weight : Nat) (q_chance : Nat) (q_digs : Nat) (q_draft : Nat) (q_isKept : Nat) (s_trace : Int64) (s_typed : Int32) (s_earliest : Int32) (s_latest : Int32) (s_firstYear : Int32) (s_rings : Int32) (s_depths : Nat → Int32) (o_r : Int32) (hf : f_X12_isSea x1 s_depths = some o_r) : CT l yX12_isSea wsX12_isSea rm_X12_isSea D cA [.ref a0, .int x1] (w_X12_isSea a0 q_depths q_text q_tune q_far q_books q_told q_years q_months q_ring q_woods q_ends q_wood q_sheets q_marsh q_oldest q_youngest q_knowns q_known q_weight q_chance q_digs q_draft q_isKept cA s_trace s_typed s_earliest s_latest s_firstYear s_rings s_depths) (w_X12_isSea a0 q_depths q_text q_tune q_far q_books q_told q_years q_months q_ring q_woods q_ends q_wood q_sheets q_marsh q_oldest q_youngest q_knowns q_known q_weight q_chance q_digs q_draft q_isKept cA s_trace s_typed s_earliest s_latest s_firstYear s_rings s_depths) (some (.int o_r)) := by
  refine CT.ofW (cc := cX12_isSea) (maxL := 2) (ret := (some .boolean)) (by decide +kernel) rfl (Nat.le_of_ble_eq_true rfl) ?_
  intro p e s m below meth c A C0 hA hP hD ls hl
  have C0 : MX p s m [.ref a0, .int x1].toArray meth c cX12_isSea 2 wsX12_isSea RX12 (some .boolean) D cA := C0
  have hl : lv_has ls 2 [(0, .ref a0), (1, .int x1)] := hl
  obtain ⟨hx, hb, hml, hown, hts, hr, hlocks, hX⟩ := id C0
  have hK := hX.1
  have hN := hX.2
  have hS : va_S A s.heap s.heap [] := va_S.rf
  unfold f_X12_isSea at hf
  refine lv_iload_n hx hb dX12_isSea_0 rfl (lv_at hl 1 rfl) ?_
  obtain ⟨r_1, hc_2, hf⟩ := pcl_e hf
  refine m_callS2 (As := [.int x1]) (rest := []) ⟨hx, hb, hml, hown, hts⟩ hX (ct_X12_isCell l D cA x1 r_1 hc_2) (va_cwS 1 hts gX12_isSea_X12_isCell rfl rfl rfl (by decide +kernel) ⟨Nat.le_of_ble_eq_true rfl, Nat.le_of_ble_eq_true rfl⟩) hP hD hS hA [] [0, 1] 2 (by decide) rfl rfl (WS' := (w_X12_isSea a0 q_depths q_text q_tune q_far q_books q_told q_years q_months q_ring q_woods q_ends q_wood q_sheets q_marsh q_oldest q_youngest q_knowns q_known q_weight q_chance q_digs q_draft q_isKept cA s_trace s_typed s_earliest s_latest s_firstYear s_rings s_depths)) (WR := [(a0, .inr (12, [.long s_trace, .ref q_text, .int s_typed, .ref q_depths, .ref q_tune, .ref q_far, .ref q_books, .ref q_told, .int s_earliest, .int s_latest, .ref q_years, .ref q_months, .int s_firstYear, .int s_rings, .ref q_ring, .ref q_woods, .ref q_ends, .ref q_wood, .ref q_sheets, .ref q_marsh, .ref q_oldest, .ref q_youngest, .ref q_knowns, .ref q_known, .ref q_weight, .ref q_chance, .ref q_digs, .ref q_draft, .ref q_isKept])), (q_depths, .inl (cA 1, 96, .inl s_depths))]) rfl rfl rfl rfl (by decide) (by decide) rfl hl.1 rfl (st' := [.int r_1]) rfl (Nat.le_of_ble_eq_true rfl) ⟨Nat.zero_le _, Nat.zero_le _⟩ dX12_isSea_1 (fun H locs hP hD hS => ?_)
  refine lv_if_eq (tgt := 20) hx hb dX12_isSea_4 (by decide) (fun c_3 => ?_) (fun c_3 => ?_)
  · have hf := pbr_t c_3 hf
    refine lv_iconst (v := (0 : Int32)) hx hb dX12_isSea_20 (by decide) ?_
    obtain rfl := pe1 hf
    exact m_zret (by decide) hx hb hr hlocks hP hS dX12_isSea_21
  have hf := pbr_f c_3 hf
  refine lv_aload_n hx hb dX12_isSea_7 rfl (lv_at hl 0 rfl) ?_
  refine va_get (D := D) (ci := 12) (v := .ref q_depths) (C := RX12) (T := TX12) (N := 29) hx hb hts hn_X12_isSea_X12 hown hK hP 0 rfl rfl 3 (by decide) (hts _ hw_X12_isSea_f13) (fun _ h9 => h9) rfl dX12_isSea_8 ?_
  refine lv_iload_n hx hb dX12_isSea_11 rfl (lv_at hl 1 rfl) ?_
  obtain ⟨g_4, hf⟩ := pgd_e hf
  refine va_iald hx hb hK hP 1 1 rfl rfl g_4 dX12_isSea_12 ?_
  refine lv_if_le (tgt := 20) hx hb dX12_isSea_13 (by decide) (fun c_5 => ?_) (fun c_5 => ?_)
  · have hf := pbr_t c_5 hf
    refine lv_iconst (v := (0 : Int32)) hx hb dX12_isSea_20 (by decide) ?_
    obtain rfl := pe1 hf
    exact m_zret (by decide) hx hb hr hlocks hP hS dX12_isSea_21
  have hf := pbr_f c_5 hf
  refine lv_iconst (v := (1 : Int32)) hx hb dX12_isSea_16 (by decide) ?_
  refine lv_goto (tgt := 21) hx hb dX12_isSea_17 (by decide) ?_
  obtain rfl := pe1 hf
  exact m_zret (by decide) hx hb hr hlocks hP hS dX12_isSea_21

/-! ===== OrphanWaveModel.depth(I)I ===== -/
abbrev rm_X12_depth : Room := { frames := 2, cells := 0, slots := 0, locals := 42 }
abbrev w_X12_depth (a0 : Nat) (q_depths : Nat) (q_text : Nat) (q_tune : Nat) (q_far : Nat) (q_books : Nat) (q_told : Nat) (q_years : Nat) (q_months : Nat) (q_ring : Nat) (q_woods : Nat) (q_ends : Nat) (q_wood : Nat) (q_sheets : Nat) (q_marsh : Nat) (q_oldest : Nat) (q_youngest : Nat) (q_knowns : Nat) (q_known : Nat) (q_weight : Nat) (q_chance : Nat) (q_digs : Nat) (q_draft : Nat) (q_isKept : Nat) (cA : Nat → ClassId) (s_trace : Int64) (s_typed : Int32) (s_earliest : Int32) (s_latest : Int32) (s_firstYear : Int32) (s_rings : Int32) (s_depths : Nat → Int32) : va_W := [(a0, .inr (12, [.long s_trace, .ref q_text, .int s_typed, .ref q_depths, .ref q_tune, .ref q_far, .ref q_books, .ref q_told, .int s_earliest, .int s_latest, .ref q_years, .ref q_months, .int s_firstYear, .int s_rings, .ref q_ring, .ref q_woods, .ref q_ends, .ref q_wood, .ref q_sheets, .ref q_marsh, .ref q_oldest, .ref q_youngest, .ref q_knowns, .ref q_known, .ref q_weight, .ref q_chance, .ref q_digs, .ref q_draft, .ref q_isKept])), (q_depths, .inl (cA 1, 96, .inl s_depths))]
theorem hn_X12_depth_X12 : ∀ w ∈ u_ws RX12 TX12 29, w ∈ wsX12_depth := by decide +kernel
theorem hw_X12_depth_f13 : Cond.fieldLink RX12 13 "OrphanWaveModel" "depths" "[I" ∈ wsX12_depth := by decide +kernel

def f_X12_depth (x1 : Int32) (s_depths : Nat → Int32) : Option ((Int32)) :=
  pcl (f_X12_isCell x1) (fun r_1 => (
  pbr (r_1 = 0)
    (some ((-1 : Int32)))
    (pgd (pin x1 96) (
    some ((s_depths x1.toNatClampNeg))))))

set_option maxRecDepth 100000 in
set_option maxHeartbeats 4000000 in
theorem ct_X12_depth (l : Launch) (D : va_G) (cA : Nat → ClassId) (x1 : Int32) (a0 : Nat) (q_depths : Nat) (q_text : Nat) (q_tune : Nat) (q_far : Nat) (q_books : Nat) (q_told : Nat) (q_years : Nat) (q_months : Nat) (q_ring : Nat) (q_woods : Nat) (q_ends : Nat) (q_wood : Nat) (q_sheets : Nat) (q_marsh : Nat) (q_oldest : Nat) (q_youngest : Nat) (q_knowns : Nat) (q_known : Nat) (q_weight : Nat) (q_chance : Nat) (q_digs : Nat) (q_draft : Nat) (q_isKept : Nat) (s_trace : Int64) (s_typed : Int32) (s_earliest : Int32) (s_latest : Int32) (s_firstYear : Int32) (s_rings : Int32) (s_depths : Nat → Int32) (o_r : Int32) (hf : f_X12_depth x1 s_depths = some o_r) : CT l yX12_depth wsX12_depth rm_X12_depth D cA [.ref a0, .int x1] (w_X12_depth a0 q_depths q_text q_tune q_far q_books q_told q_years q_months q_ring q_woods q_ends q_wood q_sheets q_marsh q_oldest q_youngest q_knowns q_known q_weight q_chance q_digs q_draft q_isKept cA s_trace s_typed s_earliest s_latest s_firstYear s_rings s_depths) (w_X12_depth a0 q_depths q_text q_tune q_far q_books q_told q_years q_months q_ring q_woods q_ends q_wood q_sheets q_marsh q_oldest q_youngest q_knowns q_known q_weight q_chance q_digs q_draft q_isKept cA s_trace s_typed s_earliest s_latest s_firstYear s_rings s_depths) (some (.int o_r)) := by
  refine CT.ofW (cc := cX12_depth) (maxL := 2) (ret := (some .int)) (by decide +kernel) rfl (Nat.le_of_ble_eq_true rfl) ?_
  intro p e s m below meth c A C0 hA hP hD ls hl
  have C0 : MX p s m [.ref a0, .int x1].toArray meth c cX12_depth 2 wsX12_depth RX12 (some .int) D cA := C0
  have hl : lv_has ls 2 [(0, .ref a0), (1, .int x1)] := hl
  obtain ⟨hx, hb, hml, hown, hts, hr, hlocks, hX⟩ := id C0
  have hK := hX.1
  have hN := hX.2
  have hS : va_S A s.heap s.heap [] := va_S.rf
  unfold f_X12_depth at hf
  refine lv_iload_n hx hb dX12_depth_0 rfl (lv_at hl 1 rfl) ?_
  obtain ⟨r_1, hc_2, hf⟩ := pcl_e hf
  refine m_callS2 (As := [.int x1]) (rest := []) ⟨hx, hb, hml, hown, hts⟩ hX (ct_X12_isCell l D cA x1 r_1 hc_2) (va_cwS 1 hts gX12_depth_X12_isCell rfl rfl rfl (by decide +kernel) ⟨Nat.le_of_ble_eq_true rfl, Nat.le_of_ble_eq_true rfl⟩) hP hD hS hA [] [0, 1] 2 (by decide) rfl rfl (WS' := (w_X12_depth a0 q_depths q_text q_tune q_far q_books q_told q_years q_months q_ring q_woods q_ends q_wood q_sheets q_marsh q_oldest q_youngest q_knowns q_known q_weight q_chance q_digs q_draft q_isKept cA s_trace s_typed s_earliest s_latest s_firstYear s_rings s_depths)) (WR := [(a0, .inr (12, [.long s_trace, .ref q_text, .int s_typed, .ref q_depths, .ref q_tune, .ref q_far, .ref q_books, .ref q_told, .int s_earliest, .int s_latest, .ref q_years, .ref q_months, .int s_firstYear, .int s_rings, .ref q_ring, .ref q_woods, .ref q_ends, .ref q_wood, .ref q_sheets, .ref q_marsh, .ref q_oldest, .ref q_youngest, .ref q_knowns, .ref q_known, .ref q_weight, .ref q_chance, .ref q_digs, .ref q_draft, .ref q_isKept])), (q_depths, .inl (cA 1, 96, .inl s_depths))]) rfl rfl rfl rfl (by decide) (by decide) rfl hl.1 rfl (st' := [.int r_1]) rfl (Nat.le_of_ble_eq_true rfl) ⟨Nat.zero_le _, Nat.zero_le _⟩ dX12_depth_1 (fun H locs hP hD hS => ?_)
  refine lv_if_eq (tgt := 16) hx hb dX12_depth_4 (by decide) (fun c_3 => ?_) (fun c_3 => ?_)
  · have hf := pbr_t c_3 hf
    refine lv_iconst (v := (-1 : Int32)) hx hb dX12_depth_16 (by decide) ?_
    obtain rfl := pe1 hf
    exact m_iret hx hb hr hlocks hP hS dX12_depth_17
  have hf := pbr_f c_3 hf
  refine lv_aload_n hx hb dX12_depth_7 rfl (lv_at hl 0 rfl) ?_
  refine va_get (D := D) (ci := 12) (v := .ref q_depths) (C := RX12) (T := TX12) (N := 29) hx hb hts hn_X12_depth_X12 hown hK hP 0 rfl rfl 3 (by decide) (hts _ hw_X12_depth_f13) (fun _ h9 => h9) rfl dX12_depth_8 ?_
  refine lv_iload_n hx hb dX12_depth_11 rfl (lv_at hl 1 rfl) ?_
  obtain ⟨g_4, hf⟩ := pgd_e hf
  refine va_iald hx hb hK hP 1 1 rfl rfl g_4 dX12_depth_12 ?_
  refine lv_goto (tgt := 17) hx hb dX12_depth_13 (by decide) ?_
  obtain rfl := pe1 hf
  exact m_iret hx hb hr hlocks hP hS dX12_depth_17

/-! ===== OrphanWaveModel.tune(II)I ===== -/
abbrev rm_X12_tune : Room := { frames := 1, cells := 0, slots := 0, locals := 22 }
abbrev w_X12_tune (a0 : Nat) (q_tune : Nat) (q_text : Nat) (q_depths : Nat) (q_far : Nat) (q_books : Nat) (q_told : Nat) (q_years : Nat) (q_months : Nat) (q_ring : Nat) (q_woods : Nat) (q_ends : Nat) (q_wood : Nat) (q_sheets : Nat) (q_marsh : Nat) (q_oldest : Nat) (q_youngest : Nat) (q_knowns : Nat) (q_known : Nat) (q_weight : Nat) (q_chance : Nat) (q_digs : Nat) (q_draft : Nat) (q_isKept : Nat) (cA : Nat → ClassId) (s_trace : Int64) (s_typed : Int32) (s_earliest : Int32) (s_latest : Int32) (s_firstYear : Int32) (s_rings : Int32) (s_tune : Nat → Int32) : va_W := [(a0, .inr (12, [.long s_trace, .ref q_text, .int s_typed, .ref q_depths, .ref q_tune, .ref q_far, .ref q_books, .ref q_told, .int s_earliest, .int s_latest, .ref q_years, .ref q_months, .int s_firstYear, .int s_rings, .ref q_ring, .ref q_woods, .ref q_ends, .ref q_wood, .ref q_sheets, .ref q_marsh, .ref q_oldest, .ref q_youngest, .ref q_knowns, .ref q_known, .ref q_weight, .ref q_chance, .ref q_digs, .ref q_draft, .ref q_isKept])), (q_tune, .inl (cA 1, 3, .inl s_tune))]
theorem hn_X12_tune_X12 : ∀ w ∈ u_ws RX12 TX12 29, w ∈ wsX12_tune := by decide +kernel
theorem hw_X12_tune_f17 : Cond.fieldLink RX12 17 "OrphanWaveModel" "tune" "[I" ∈ wsX12_tune := by decide +kernel

def f_X12_tune_43 (x1 : Int32) (x2 : Int32) (z0 : Int32) (z1 : Int32) (z2 : Int32) (s_tune : Nat → Int32) : Option ((Int32) × (Nat → Int32)) :=
  pcl (f_X12_in z0 z1 z2) (fun r_1 => (
  pbr (r_1 = 0)
    (some ((-1 : Int32), s_tune))
    (pgd (pin x1 3) (
    plt ((s_tune x1.toNatClampNeg) : Int32) (fun x3_5 => (
    plt (upd s_tune x1.toNatClampNeg x2 : Nat → Int32) (fun f_6 => (
    some (x3_5, f_6)))))))))

set_option maxRecDepth 100000 in
set_option maxHeartbeats 4000000 in
theorem k_X12_tune_43 {p : Program} {l : Launch} {e : Env} {s : State} {m : MethodId} {args : Array Value} {below : List Frame} {meth : Method} {c : Code} {A : Nat → Prop} {D : va_G} {cA : Nat → ClassId} (C0 : MX p s m args meth c cX12_tune 4 wsX12_tune RX12 (some .int) D cA) (hA : ∀ q, s.heap.size ≤ q → A q) {a0 : Nat} {q_tune : Nat} {q_text : Nat} {q_depths : Nat} {q_far : Nat} {q_books : Nat} {q_told : Nat} {q_years : Nat} {q_months : Nat} {q_ring : Nat} {q_woods : Nat} {q_ends : Nat} {q_wood : Nat} {q_sheets : Nat} {q_marsh : Nat} {q_oldest : Nat} {q_youngest : Nat} {q_knowns : Nat} {q_known : Nat} {q_weight : Nat} {q_chance : Nat} {q_digs : Nat} {q_draft : Nat} {q_isKept : Nat} {s_trace : Int64} {s_typed : Int32} {s_earliest : Int32} {s_latest : Int32} {s_firstYear : Int32} {s_rings : Int32} {x1 : Int32} {x2 : Int32} {o_r : Int32} {o_tune : Nat → Int32} : ∀ (z0 : Int32) (z1 : Int32) (z2 : Int32) (s_tune : Nat → Int32), f_X12_tune_43 x1 x2 z0 z1 z2 s_tune = some (o_r, o_tune) → ∀ (H : Heap) (locs : List Loc), va_P D vwCl (w_X12_tune a0 q_tune q_text q_depths q_far q_books q_told q_years q_months q_ring q_woods q_ends q_wood q_sheets q_marsh q_oldest q_youngest q_knowns q_known q_weight q_chance q_digs q_draft q_isKept cA s_trace s_typed s_earliest s_latest s_firstYear s_rings s_tune) H → va_D A (w_X12_tune a0 q_tune q_text q_depths q_far q_books q_told q_years q_months q_ring q_woods q_ends q_wood q_sheets q_marsh q_oldest q_youngest q_knowns q_known q_weight q_chance q_digs q_draft q_isKept cA s_trace s_typed s_earliest s_latest s_firstYear s_rings s_tune) → va_S A s.heap H locs → ∀ ls : Array Slot, lv_has ls 4 [(0, .ref a0), (1, .int x1), (2, .int x2)] → W p l e rm_X12_tune s m args below meth c H locs 0 0 (MQ below (CQ D (some (.int o_r)) (w_X12_tune a0 q_tune q_text q_depths q_far q_books q_told q_years q_months q_ring q_woods q_ends q_wood q_sheets q_marsh q_oldest q_youngest q_knowns q_known q_weight q_chance q_digs q_draft q_isKept cA s_trace s_typed s_earliest s_latest s_firstYear s_rings o_tune) A) args s 0 0 A) (F0 m 43 ls [.int z2, .int z1, .int z0]) := by
  obtain ⟨hx, hb, hml, hown, hts, hr, hlocks, hX⟩ := C0
  have hK := hX.1
  have hN := hX.2
  intro z0 z1 z2 s_tune hf H locs hP hD hS ls hl
  unfold f_X12_tune_43 at hf
  obtain ⟨r_1, hc_2, hf⟩ := pcl_e hf
  refine m_callS2 (As := [.int z0, .int z1, .int z2]) (rest := []) ⟨hx, hb, hml, hown, hts⟩ hX (ct_X12_in l D cA z0 z1 z2 r_1 hc_2) (va_cwS 3 hts gX12_tune_X12_in rfl rfl rfl (by decide +kernel) ⟨Nat.le_of_ble_eq_true rfl, Nat.le_of_ble_eq_true rfl⟩) hP hD hS hA [] [0, 1] 2 (by decide) rfl rfl (WS' := (w_X12_tune a0 q_tune q_text q_depths q_far q_books q_told q_years q_months q_ring q_woods q_ends q_wood q_sheets q_marsh q_oldest q_youngest q_knowns q_known q_weight q_chance q_digs q_draft q_isKept cA s_trace s_typed s_earliest s_latest s_firstYear s_rings s_tune)) (WR := [(a0, .inr (12, [.long s_trace, .ref q_text, .int s_typed, .ref q_depths, .ref q_tune, .ref q_far, .ref q_books, .ref q_told, .int s_earliest, .int s_latest, .ref q_years, .ref q_months, .int s_firstYear, .int s_rings, .ref q_ring, .ref q_woods, .ref q_ends, .ref q_wood, .ref q_sheets, .ref q_marsh, .ref q_oldest, .ref q_youngest, .ref q_knowns, .ref q_known, .ref q_weight, .ref q_chance, .ref q_digs, .ref q_draft, .ref q_isKept])), (q_tune, .inl (cA 1, 3, .inl s_tune))]) rfl rfl rfl rfl (by decide) (by decide) rfl hl.1 rfl (st' := [.int r_1]) rfl (Nat.le_of_ble_eq_true rfl) ⟨Nat.zero_le _, Nat.zero_le _⟩ dX12_tune_43 (fun H locs hP hD hS => ?_)
  refine lv_if_ne (tgt := 51) hx hb dX12_tune_46 (by decide) (fun c_3 => ?_) (fun c_3 => ?_)
  · have hf := pbr_f c_3 hf
    refine lv_aload_n hx hb dX12_tune_51 rfl (lv_at hl 0 rfl) ?_
    refine va_get (D := D) (ci := 12) (v := .ref q_tune) (C := RX12) (T := TX12) (N := 29) hx hb hts hn_X12_tune_X12 hown hK hP 0 rfl rfl 4 (by decide) (hts _ hw_X12_tune_f17) (fun _ h9 => h9) rfl dX12_tune_52 ?_
    refine lv_iload_n hx hb dX12_tune_55 rfl (lv_at hl 1 rfl) ?_
    obtain ⟨g_4, hf⟩ := pgd_e hf
    refine va_iald hx hb hK hP 1 1 rfl rfl g_4 dX12_tune_56 ?_
    refine lv_topi (fun x3_5 ex3_5 => ?_)
    have hf := plt_e ex3_5 hf
    refine lv_istore_n (lv' := [(3, .int x3_5), (0, .ref a0), (1, .int x1), (2, .int x2)]) hx hb dX12_tune_57 rfl hl (by decide) rfl (fun ls hl => ?_)
    refine lv_aload_n hx hb dX12_tune_58 rfl (lv_at hl 1 rfl) ?_
    refine va_get (D := D) (ci := 12) (v := .ref q_tune) (C := RX12) (T := TX12) (N := 29) hx hb hts hn_X12_tune_X12 hown hK hP 0 rfl rfl 4 (by decide) (hts _ hw_X12_tune_f17) (fun _ h9 => h9) rfl dX12_tune_59 ?_
    refine lv_iload_n hx hb dX12_tune_62 rfl (lv_at hl 2 rfl) ?_
    refine lv_iload_n hx hb dX12_tune_63 rfl (lv_at hl 3 rfl) ?_
    refine va_iast hx hb hK hP hD hS 1 1 rfl rfl g_4 dX12_tune_64 (fun H locs hP hD hS => ?_)
    obtain ⟨f_6, ef_6⟩ : ∃ z : Nat → Int32, z = upd s_tune x1.toNatClampNeg x2 := ⟨_, rfl⟩
    have hf := plt_e ef_6 hf
    have hP : va_P D vwCl (w_X12_tune a0 q_tune q_text q_depths q_far q_books q_told q_years q_months q_ring q_woods q_ends q_wood q_sheets q_marsh q_oldest q_youngest q_knowns q_known q_weight q_chance q_digs q_draft q_isKept cA s_trace s_typed s_earliest s_latest s_firstYear s_rings f_6) H := by rw [ef_6]; exact hP
    have hD : va_D A (w_X12_tune a0 q_tune q_text q_depths q_far q_books q_told q_years q_months q_ring q_woods q_ends q_wood q_sheets q_marsh q_oldest q_youngest q_knowns q_known q_weight q_chance q_digs q_draft q_isKept cA s_trace s_typed s_earliest s_latest s_firstYear s_rings f_6) := by rw [ef_6]; exact hD
    refine lv_iload_n hx hb dX12_tune_65 rfl (lv_at hl 0 rfl) ?_
    obtain ⟨rfl, rfl⟩ := pe2 hf
    exact m_iret hx hb hr hlocks hP hS dX12_tune_66
  have hf := pbr_t c_3 hf
  refine lv_iconst (v := (-1 : Int32)) hx hb dX12_tune_49 (by decide) ?_
  obtain ⟨rfl, rfl⟩ := pe2 hf
  exact m_iret hx hb hr hlocks hP hS dX12_tune_50

def f_X12_tune_20 (x1 : Int32) (x2 : Int32) (z0 : Int32) (z1 : Int32) (s_tune : Nat → Int32) : Option ((Int32) × (Nat → Int32)) :=
  pbr (x1 = 0)
    (f_X12_tune_43 x1 x2 z0 z1 (9 : Int32) s_tune)
    (pbr (x1 = (1 : Int32))
      (f_X12_tune_43 x1 x2 z0 z1 (999 : Int32) s_tune)
      (f_X12_tune_43 x1 x2 z0 z1 (9999 : Int32) s_tune))

set_option maxRecDepth 100000 in
set_option maxHeartbeats 4000000 in
theorem k_X12_tune_20 {p : Program} {l : Launch} {e : Env} {s : State} {m : MethodId} {args : Array Value} {below : List Frame} {meth : Method} {c : Code} {A : Nat → Prop} {D : va_G} {cA : Nat → ClassId} (C0 : MX p s m args meth c cX12_tune 4 wsX12_tune RX12 (some .int) D cA) (hA : ∀ q, s.heap.size ≤ q → A q) {a0 : Nat} {q_tune : Nat} {q_text : Nat} {q_depths : Nat} {q_far : Nat} {q_books : Nat} {q_told : Nat} {q_years : Nat} {q_months : Nat} {q_ring : Nat} {q_woods : Nat} {q_ends : Nat} {q_wood : Nat} {q_sheets : Nat} {q_marsh : Nat} {q_oldest : Nat} {q_youngest : Nat} {q_knowns : Nat} {q_known : Nat} {q_weight : Nat} {q_chance : Nat} {q_digs : Nat} {q_draft : Nat} {q_isKept : Nat} {s_trace : Int64} {s_typed : Int32} {s_earliest : Int32} {s_latest : Int32} {s_firstYear : Int32} {s_rings : Int32} {x1 : Int32} {x2 : Int32} {o_r : Int32} {o_tune : Nat → Int32} : ∀ (z0 : Int32) (z1 : Int32) (s_tune : Nat → Int32), f_X12_tune_20 x1 x2 z0 z1 s_tune = some (o_r, o_tune) → ∀ (H : Heap) (locs : List Loc), va_P D vwCl (w_X12_tune a0 q_tune q_text q_depths q_far q_books q_told q_years q_months q_ring q_woods q_ends q_wood q_sheets q_marsh q_oldest q_youngest q_knowns q_known q_weight q_chance q_digs q_draft q_isKept cA s_trace s_typed s_earliest s_latest s_firstYear s_rings s_tune) H → va_D A (w_X12_tune a0 q_tune q_text q_depths q_far q_books q_told q_years q_months q_ring q_woods q_ends q_wood q_sheets q_marsh q_oldest q_youngest q_knowns q_known q_weight q_chance q_digs q_draft q_isKept cA s_trace s_typed s_earliest s_latest s_firstYear s_rings s_tune) → va_S A s.heap H locs → ∀ ls : Array Slot, lv_has ls 4 [(0, .ref a0), (1, .int x1), (2, .int x2)] → W p l e rm_X12_tune s m args below meth c H locs 0 0 (MQ below (CQ D (some (.int o_r)) (w_X12_tune a0 q_tune q_text q_depths q_far q_books q_told q_years q_months q_ring q_woods q_ends q_wood q_sheets q_marsh q_oldest q_youngest q_knowns q_known q_weight q_chance q_digs q_draft q_isKept cA s_trace s_typed s_earliest s_latest s_firstYear s_rings o_tune) A) args s 0 0 A) (F0 m 20 ls [.int z1, .int z0]) := by
  obtain ⟨hx, hb, hml, hown, hts, hr, hlocks, hX⟩ := C0
  have hK := hX.1
  have hN := hX.2
  intro z0 z1 s_tune hf H locs hP hD hS ls hl
  unfold f_X12_tune_20 at hf
  refine lv_iload_n hx hb dX12_tune_20 rfl (lv_at hl 1 rfl) ?_
  refine lv_if_ne (tgt := 29) hx hb dX12_tune_21 (by decide) (fun c_1 => ?_) (fun c_1 => ?_)
  · have hf := pbr_f c_1 hf
    refine lv_iload_n hx hb dX12_tune_29 rfl (lv_at hl 1 rfl) ?_
    refine lv_iconst (v := (1 : Int32)) hx hb dX12_tune_30 (by decide) ?_
    refine lv_icmp_ne (tgt := 40) hx hb dX12_tune_31 (by decide) (fun c_2 => ?_) (fun c_2 => ?_)
    · have hf := pbr_f c_2 hf
      refine lv_sipush (v := (9999 : Int32)) hx hb dX12_tune_40 (by decide) ?_
      exact k_X12_tune_43 ⟨hx, hb, hml, hown, hts, hr, hlocks, hX⟩ hA z0 z1 (9999 : Int32) s_tune hf _ _ hP hD hS ls (lv_sub hl [0, 1, 2] rfl)
    have hf := pbr_t c_2 hf
    refine lv_sipush (v := (999 : Int32)) hx hb dX12_tune_34 (by decide) ?_
    refine lv_goto (tgt := 43) hx hb dX12_tune_37 (by decide) ?_
    exact k_X12_tune_43 ⟨hx, hb, hml, hown, hts, hr, hlocks, hX⟩ hA z0 z1 (999 : Int32) s_tune hf _ _ hP hD hS ls (lv_sub hl [0, 1, 2] rfl)
  have hf := pbr_t c_1 hf
  refine lv_bipush (v := (9 : Int32)) hx hb dX12_tune_24 (by decide) ?_
  refine lv_goto (tgt := 43) hx hb dX12_tune_26 (by decide) ?_
  exact k_X12_tune_43 ⟨hx, hb, hml, hown, hts, hr, hlocks, hX⟩ hA z0 z1 (9 : Int32) s_tune hf _ _ hP hD hS ls (lv_sub hl [0, 1, 2] rfl)

def f_X12_tune (x1 : Int32) (x2 : Int32) (s_tune : Nat → Int32) : Option ((Int32) × (Nat → Int32)) :=
  pcl (f_X12_in x1 (0 : Int32) (2 : Int32)) (fun r_1 => (
  pbr (r_1 = 0)
    (some ((-1 : Int32), s_tune))
    (pbr ((2 : Int32) ≤ x1)
      (f_X12_tune_20 x1 x2 x2 (0 : Int32) s_tune)
      (f_X12_tune_20 x1 x2 x2 (1 : Int32) s_tune))))

set_option maxRecDepth 100000 in
set_option maxHeartbeats 4000000 in
theorem ct_X12_tune (l : Launch) (D : va_G) (cA : Nat → ClassId) (x1 : Int32) (x2 : Int32) (a0 : Nat) (q_tune : Nat) (q_text : Nat) (q_depths : Nat) (q_far : Nat) (q_books : Nat) (q_told : Nat) (q_years : Nat) (q_months : Nat) (q_ring : Nat) (q_woods : Nat) (q_ends : Nat) (q_wood : Nat) (q_sheets : Nat) (q_marsh : Nat) (q_oldest : Nat) (q_youngest : Nat) (q_knowns : Nat) (q_known : Nat) (q_weight : Nat) (q_chance : Nat) (q_digs : Nat) (q_draft : Nat) (q_isKept : Nat) (s_trace : Int64) (s_typed : Int32) (s_earliest : Int32) (s_latest : Int32) (s_firstYear : Int32) (s_rings : Int32) (s_tune : Nat → Int32) (o_r : Int32) (o_tune : Nat → Int32) (hf : f_X12_tune x1 x2 s_tune = some (o_r, o_tune)) : CT l yX12_tune wsX12_tune rm_X12_tune D cA [.ref a0, .int x1, .int x2] (w_X12_tune a0 q_tune q_text q_depths q_far q_books q_told q_years q_months q_ring q_woods q_ends q_wood q_sheets q_marsh q_oldest q_youngest q_knowns q_known q_weight q_chance q_digs q_draft q_isKept cA s_trace s_typed s_earliest s_latest s_firstYear s_rings s_tune) (w_X12_tune a0 q_tune q_text q_depths q_far q_books q_told q_years q_months q_ring q_woods q_ends q_wood q_sheets q_marsh q_oldest q_youngest q_knowns q_known q_weight q_chance q_digs q_draft q_isKept cA s_trace s_typed s_earliest s_latest s_firstYear s_rings o_tune) (some (.int o_r)) := by
  refine CT.ofW (cc := cX12_tune) (maxL := 4) (ret := (some .int)) (by decide +kernel) rfl (Nat.le_of_ble_eq_true rfl) ?_
  intro p e s m below meth c A C0 hA hP hD ls hl
  have C0 : MX p s m [.ref a0, .int x1, .int x2].toArray meth c cX12_tune 4 wsX12_tune RX12 (some .int) D cA := C0
  have hl : lv_has ls 4 [(0, .ref a0), (1, .int x1), (2, .int x2)] := hl
  obtain ⟨hx, hb, hml, hown, hts, hr, hlocks, hX⟩ := id C0
  have hK := hX.1
  have hN := hX.2
  have hS : va_S A s.heap s.heap [] := va_S.rf
  unfold f_X12_tune at hf
  refine lv_iload_n hx hb dX12_tune_0 rfl (lv_at hl 1 rfl) ?_
  refine lv_iconst (v := (0 : Int32)) hx hb dX12_tune_1 (by decide) ?_
  refine lv_iconst (v := (2 : Int32)) hx hb dX12_tune_2 (by decide) ?_
  obtain ⟨r_1, hc_2, hf⟩ := pcl_e hf
  refine m_callS2 (As := [.int x1, .int (0 : Int32), .int (2 : Int32)]) (rest := []) ⟨hx, hb, hml, hown, hts⟩ hX (ct_X12_in l D cA x1 (0 : Int32) (2 : Int32) r_1 hc_2) (va_cwS 3 hts gX12_tune_X12_in rfl rfl rfl (by decide +kernel) ⟨Nat.le_of_ble_eq_true rfl, Nat.le_of_ble_eq_true rfl⟩) hP hD hS hA [] [0, 1] 2 (by decide) rfl rfl (WS' := (w_X12_tune a0 q_tune q_text q_depths q_far q_books q_told q_years q_months q_ring q_woods q_ends q_wood q_sheets q_marsh q_oldest q_youngest q_knowns q_known q_weight q_chance q_digs q_draft q_isKept cA s_trace s_typed s_earliest s_latest s_firstYear s_rings s_tune)) (WR := [(a0, .inr (12, [.long s_trace, .ref q_text, .int s_typed, .ref q_depths, .ref q_tune, .ref q_far, .ref q_books, .ref q_told, .int s_earliest, .int s_latest, .ref q_years, .ref q_months, .int s_firstYear, .int s_rings, .ref q_ring, .ref q_woods, .ref q_ends, .ref q_wood, .ref q_sheets, .ref q_marsh, .ref q_oldest, .ref q_youngest, .ref q_knowns, .ref q_known, .ref q_weight, .ref q_chance, .ref q_digs, .ref q_draft, .ref q_isKept])), (q_tune, .inl (cA 1, 3, .inl s_tune))]) rfl rfl rfl rfl (by decide) (by decide) rfl hl.1 rfl (st' := [.int r_1]) rfl (Nat.le_of_ble_eq_true rfl) ⟨Nat.zero_le _, Nat.zero_le _⟩ dX12_tune_3 (fun H locs hP hD hS => ?_)
  refine lv_if_eq (tgt := 49) hx hb dX12_tune_6 (by decide) (fun c_3 => ?_) (fun c_3 => ?_)
  · have hf := pbr_t c_3 hf
    refine lv_iconst (v := (-1 : Int32)) hx hb dX12_tune_49 (by decide) ?_
    obtain ⟨rfl, rfl⟩ := pe2 hf
    exact m_iret hx hb hr hlocks hP hS dX12_tune_50
  have hf := pbr_f c_3 hf
  refine lv_iload_n hx hb dX12_tune_9 rfl (lv_at hl 2 rfl) ?_
  refine lv_iload_n hx hb dX12_tune_10 rfl (lv_at hl 1 rfl) ?_
  refine lv_iconst (v := (2 : Int32)) hx hb dX12_tune_11 (by decide) ?_
  refine lv_icmp_ge (tgt := 19) hx hb dX12_tune_12 (by decide) (fun c_4 => ?_) (fun c_4 => ?_)
  · have hf := pbr_t c_4 hf
    refine lv_iconst (v := (0 : Int32)) hx hb dX12_tune_19 (by decide) ?_
    exact k_X12_tune_20 C0 hA x2 (0 : Int32) s_tune hf _ _ hP hD hS ls (lv_sub hl [0, 1, 2] rfl)
  have hf := pbr_f c_4 hf
  refine lv_iconst (v := (1 : Int32)) hx hb dX12_tune_15 (by decide) ?_
  refine lv_goto (tgt := 20) hx hb dX12_tune_16 (by decide) ?_
  exact k_X12_tune_20 C0 hA x2 (1 : Int32) s_tune hf _ _ hP hD hS ls (lv_sub hl [0, 1, 2] rfl)

/-! ===== OrphanWaveModel.into(I)I ===== -/
abbrev rm_X12_into : Room := { frames := 0, cells := 0, slots := 0, locals := 0 }
abbrev w_X12_into (a0 : Nat) (q_far : Nat) (q_tune : Nat) (q_depths : Nat) (q_text : Nat) (q_books : Nat) (q_told : Nat) (q_years : Nat) (q_months : Nat) (q_ring : Nat) (q_woods : Nat) (q_ends : Nat) (q_wood : Nat) (q_sheets : Nat) (q_marsh : Nat) (q_oldest : Nat) (q_youngest : Nat) (q_knowns : Nat) (q_known : Nat) (q_weight : Nat) (q_chance : Nat) (q_digs : Nat) (q_draft : Nat) (q_isKept : Nat) (cA : Nat → ClassId) (s_trace : Int64) (s_typed : Int32) (s_earliest : Int32) (s_latest : Int32) (s_firstYear : Int32) (s_rings : Int32) (s_far : Nat → Int32) (s_tune : Nat → Int32) (s_depths : Nat → Int32) : va_W := [(a0, .inr (12, [.long s_trace, .ref q_text, .int s_typed, .ref q_depths, .ref q_tune, .ref q_far, .ref q_books, .ref q_told, .int s_earliest, .int s_latest, .ref q_years, .ref q_months, .int s_firstYear, .int s_rings, .ref q_ring, .ref q_woods, .ref q_ends, .ref q_wood, .ref q_sheets, .ref q_marsh, .ref q_oldest, .ref q_youngest, .ref q_knowns, .ref q_known, .ref q_weight, .ref q_chance, .ref q_digs, .ref q_draft, .ref q_isKept])), (q_far, .inl (cA 1, 48, .inl s_far)), (q_tune, .inl (cA 1, 3, .inl s_tune)), (q_depths, .inl (cA 1, 96, .inl s_depths))]
theorem hn_X12_into_X12 : ∀ w ∈ u_ws RX12 TX12 29, w ∈ wsX12_into := by decide +kernel
theorem hw_X12_into_f20 : Cond.fieldLink RX12 20 "OrphanWaveModel" "far" "[I" ∈ wsX12_into := by decide +kernel
theorem hw_X12_into_f17 : Cond.fieldLink RX12 17 "OrphanWaveModel" "tune" "[I" ∈ wsX12_into := by decide +kernel
theorem hw_X12_into_f13 : Cond.fieldLink RX12 13 "OrphanWaveModel" "depths" "[I" ∈ wsX12_into := by decide +kernel

def f_X12_into_133 (s_far : Nat → Int32) (s_tune : Nat → Int32) (s_depths : Nat → Int32) (x1 : Int32) (x3 : Int32) (z0 : Int32) : Option ((Int32)) :=
  pbr ((7 : Int32) ≤ (x1 - x1 / (8 : Int32) * (8 : Int32)))
    (some (z0))
    (pgd (pin (x1 + (1 : Int32)) 48) (
    pbr (z0 ≤ ((s_far (x1 + (1 : Int32)).toNatClampNeg) + x3))
      (some (z0))
      (plt (((s_far (x1 + (1 : Int32)).toNatClampNeg) + x3) : Int32) (fun x2_4 => (
      some (x2_4))))))

set_option maxRecDepth 100000 in
set_option maxHeartbeats 4000000 in
theorem k_X12_into_133 {p : Program} {l : Launch} {e : Env} {s : State} {m : MethodId} {args : Array Value} {below : List Frame} {meth : Method} {c : Code} {A : Nat → Prop} {D : va_G} {cA : Nat → ClassId} (C0 : MX p s m args meth c cX12_into 4 wsX12_into RX12 (some .int) D cA) (hA : ∀ q, s.heap.size ≤ q → A q) {a0 : Nat} {q_far : Nat} {q_tune : Nat} {q_depths : Nat} {q_text : Nat} {q_books : Nat} {q_told : Nat} {q_years : Nat} {q_months : Nat} {q_ring : Nat} {q_woods : Nat} {q_ends : Nat} {q_wood : Nat} {q_sheets : Nat} {q_marsh : Nat} {q_oldest : Nat} {q_youngest : Nat} {q_knowns : Nat} {q_known : Nat} {q_weight : Nat} {q_chance : Nat} {q_digs : Nat} {q_draft : Nat} {q_isKept : Nat} {s_trace : Int64} {s_typed : Int32} {s_earliest : Int32} {s_latest : Int32} {s_firstYear : Int32} {s_rings : Int32} {s_far : Nat → Int32} {s_tune : Nat → Int32} {s_depths : Nat → Int32} {x1 : Int32} {o_r : Int32} : ∀ (x3 : Int32) (z0 : Int32), f_X12_into_133 s_far s_tune s_depths x1 x3 z0 = some o_r → ∀ (H : Heap) (locs : List Loc), va_P D vwCl (w_X12_into a0 q_far q_tune q_depths q_text q_books q_told q_years q_months q_ring q_woods q_ends q_wood q_sheets q_marsh q_oldest q_youngest q_knowns q_known q_weight q_chance q_digs q_draft q_isKept cA s_trace s_typed s_earliest s_latest s_firstYear s_rings s_far s_tune s_depths) H → va_D A (w_X12_into a0 q_far q_tune q_depths q_text q_books q_told q_years q_months q_ring q_woods q_ends q_wood q_sheets q_marsh q_oldest q_youngest q_knowns q_known q_weight q_chance q_digs q_draft q_isKept cA s_trace s_typed s_earliest s_latest s_firstYear s_rings s_far s_tune s_depths) → va_S A s.heap H locs → ∀ ls : Array Slot, lv_has ls 4 [(0, .ref a0), (1, .int x1), (3, .int x3)] → W p l e rm_X12_into s m args below meth c H locs 0 0 (MQ below (CQ D (some (.int o_r)) (w_X12_into a0 q_far q_tune q_depths q_text q_books q_told q_years q_months q_ring q_woods q_ends q_wood q_sheets q_marsh q_oldest q_youngest q_knowns q_known q_weight q_chance q_digs q_draft q_isKept cA s_trace s_typed s_earliest s_latest s_firstYear s_rings s_far s_tune s_depths) A) args s 0 0 A) (F0 m 133 ls [.int z0]) := by
  obtain ⟨hx, hb, hml, hown, hts, hr, hlocks, hX⟩ := C0
  have hK := hX.1
  have hN := hX.2
  intro x3 z0 hf H locs hP hD hS ls hl
  unfold f_X12_into_133 at hf
  refine lv_istore_n (lv' := [(2, .int z0), (0, .ref a0), (1, .int x1), (3, .int x3)]) hx hb dX12_into_133 rfl hl (by decide) rfl (fun ls hl => ?_)
  refine lv_iload_n hx hb dX12_into_134 rfl (lv_at hl 2 rfl) ?_
  refine lv_bipush (v := (8 : Int32)) hx hb dX12_into_135 (by decide) ?_
  refine lv_irem hx hb dX12_into_137 (by decide) ?_
  refine lv_bipush (v := (7 : Int32)) hx hb dX12_into_138 (by decide) ?_
  refine lv_icmp_ge (tgt := 170) hx hb dX12_into_140 (by decide) (fun c_1 => ?_) (fun c_1 => ?_)
  · have hf := pbr_t c_1 hf
    refine lv_iload_n hx hb dX12_into_170 rfl (lv_at hl 0 rfl) ?_
    refine lv_istore_n (lv' := [(2, .int z0), (0, .ref a0), (1, .int x1), (3, .int x3)]) hx hb dX12_into_171 rfl hl (by decide) rfl (fun ls hl => ?_)
    refine lv_iload_n hx hb dX12_into_172 rfl (lv_at hl 0 rfl) ?_
    obtain rfl := pe1 hf
    exact m_iret hx hb hr hlocks hP hS dX12_into_173
  have hf := pbr_f c_1 hf
  refine lv_aload_n hx hb dX12_into_143 rfl (lv_at hl 1 rfl) ?_
  refine va_get (D := D) (ci := 12) (v := .ref q_far) (C := RX12) (T := TX12) (N := 29) hx hb hts hn_X12_into_X12 hown hK hP 0 rfl rfl 5 (by decide) (hts _ hw_X12_into_f20) (fun _ h9 => h9) rfl dX12_into_144 ?_
  refine lv_iload_n hx hb dX12_into_147 rfl (lv_at hl 2 rfl) ?_
  refine lv_iconst (v := (1 : Int32)) hx hb dX12_into_148 (by decide) ?_
  refine lv_iadd hx hb dX12_into_149 ?_
  obtain ⟨g_2, hf⟩ := pgd_e hf
  refine va_iald hx hb hK hP 1 1 rfl rfl g_2 dX12_into_150 ?_
  refine lv_iload_n hx hb dX12_into_151 rfl (lv_at hl 3 rfl) ?_
  refine lv_iadd hx hb dX12_into_152 ?_
  refine lv_iload_n hx hb dX12_into_153 rfl (lv_at hl 0 rfl) ?_
  refine lv_icmp_ge (tgt := 170) hx hb dX12_into_154 (by decide) (fun c_3 => ?_) (fun c_3 => ?_)
  · have hf := pbr_t c_3 hf
    refine lv_iload_n hx hb dX12_into_170 rfl (lv_at hl 0 rfl) ?_
    refine lv_istore_n (lv' := [(2, .int z0), (0, .ref a0), (1, .int x1), (3, .int x3)]) hx hb dX12_into_171 rfl hl (by decide) rfl (fun ls hl => ?_)
    refine lv_iload_n hx hb dX12_into_172 rfl (lv_at hl 0 rfl) ?_
    obtain rfl := pe1 hf
    exact m_iret hx hb hr hlocks hP hS dX12_into_173
  have hf := pbr_f c_3 hf
  refine lv_aload_n hx hb dX12_into_157 rfl (lv_at hl 1 rfl) ?_
  refine va_get (D := D) (ci := 12) (v := .ref q_far) (C := RX12) (T := TX12) (N := 29) hx hb hts hn_X12_into_X12 hown hK hP 0 rfl rfl 5 (by decide) (hts _ hw_X12_into_f20) (fun _ h9 => h9) rfl dX12_into_158 ?_
  refine lv_iload_n hx hb dX12_into_161 rfl (lv_at hl 2 rfl) ?_
  refine lv_iconst (v := (1 : Int32)) hx hb dX12_into_162 (by decide) ?_
  refine lv_iadd hx hb dX12_into_163 ?_
  refine va_iald hx hb hK hP 1 1 rfl rfl g_2 dX12_into_164 ?_
  refine lv_iload_n hx hb dX12_into_165 rfl (lv_at hl 3 rfl) ?_
  refine lv_iadd hx hb dX12_into_166 ?_
  refine lv_goto (tgt := 171) hx hb dX12_into_167 (by decide) ?_
  refine lv_topi (fun x2_4 ex2_4 => ?_)
  have hf := plt_e ex2_4 hf
  refine lv_istore_n (lv' := [(2, .int x2_4), (0, .ref a0), (1, .int x1), (3, .int x3)]) hx hb dX12_into_171 rfl hl (by decide) rfl (fun ls hl => ?_)
  refine lv_iload_n hx hb dX12_into_172 rfl (lv_at hl 0 rfl) ?_
  obtain rfl := pe1 hf
  exact m_iret hx hb hr hlocks hP hS dX12_into_173

def f_X12_into_132 (s_far : Nat → Int32) (s_tune : Nat → Int32) (s_depths : Nat → Int32) (x1 : Int32) (x2 : Int32) (x3 : Int32) : Option ((Int32)) :=
  f_X12_into_133 s_far s_tune s_depths x1 x3 x2

set_option maxRecDepth 100000 in
set_option maxHeartbeats 4000000 in
theorem k_X12_into_132 {p : Program} {l : Launch} {e : Env} {s : State} {m : MethodId} {args : Array Value} {below : List Frame} {meth : Method} {c : Code} {A : Nat → Prop} {D : va_G} {cA : Nat → ClassId} (C0 : MX p s m args meth c cX12_into 4 wsX12_into RX12 (some .int) D cA) (hA : ∀ q, s.heap.size ≤ q → A q) {a0 : Nat} {q_far : Nat} {q_tune : Nat} {q_depths : Nat} {q_text : Nat} {q_books : Nat} {q_told : Nat} {q_years : Nat} {q_months : Nat} {q_ring : Nat} {q_woods : Nat} {q_ends : Nat} {q_wood : Nat} {q_sheets : Nat} {q_marsh : Nat} {q_oldest : Nat} {q_youngest : Nat} {q_knowns : Nat} {q_known : Nat} {q_weight : Nat} {q_chance : Nat} {q_digs : Nat} {q_draft : Nat} {q_isKept : Nat} {s_trace : Int64} {s_typed : Int32} {s_earliest : Int32} {s_latest : Int32} {s_firstYear : Int32} {s_rings : Int32} {s_far : Nat → Int32} {s_tune : Nat → Int32} {s_depths : Nat → Int32} {x1 : Int32} {o_r : Int32} : ∀ (x2 : Int32) (x3 : Int32), f_X12_into_132 s_far s_tune s_depths x1 x2 x3 = some o_r → ∀ (H : Heap) (locs : List Loc), va_P D vwCl (w_X12_into a0 q_far q_tune q_depths q_text q_books q_told q_years q_months q_ring q_woods q_ends q_wood q_sheets q_marsh q_oldest q_youngest q_knowns q_known q_weight q_chance q_digs q_draft q_isKept cA s_trace s_typed s_earliest s_latest s_firstYear s_rings s_far s_tune s_depths) H → va_D A (w_X12_into a0 q_far q_tune q_depths q_text q_books q_told q_years q_months q_ring q_woods q_ends q_wood q_sheets q_marsh q_oldest q_youngest q_knowns q_known q_weight q_chance q_digs q_draft q_isKept cA s_trace s_typed s_earliest s_latest s_firstYear s_rings s_far s_tune s_depths) → va_S A s.heap H locs → ∀ ls : Array Slot, lv_has ls 4 [(0, .ref a0), (1, .int x1), (2, .int x2), (3, .int x3)] → W p l e rm_X12_into s m args below meth c H locs 0 0 (MQ below (CQ D (some (.int o_r)) (w_X12_into a0 q_far q_tune q_depths q_text q_books q_told q_years q_months q_ring q_woods q_ends q_wood q_sheets q_marsh q_oldest q_youngest q_knowns q_known q_weight q_chance q_digs q_draft q_isKept cA s_trace s_typed s_earliest s_latest s_firstYear s_rings s_far s_tune s_depths) A) args s 0 0 A) (F0 m 132 ls []) := by
  obtain ⟨hx, hb, hml, hown, hts, hr, hlocks, hX⟩ := C0
  have hK := hX.1
  have hN := hX.2
  intro x2 x3 hf H locs hP hD hS ls hl
  unfold f_X12_into_132 at hf
  refine lv_iload_n hx hb dX12_into_132 rfl (lv_at hl 2 rfl) ?_
  exact k_X12_into_133 ⟨hx, hb, hml, hown, hts, hr, hlocks, hX⟩ hA x3 x2 hf _ _ hP hD hS ls (lv_sub hl [0, 1, 3] rfl)

def f_X12_into_97 (s_far : Nat → Int32) (s_tune : Nat → Int32) (s_depths : Nat → Int32) (x1 : Int32) (x3 : Int32) (z0 : Int32) : Option ((Int32)) :=
  pbr ((x1 - x1 / (8 : Int32) * (8 : Int32)) ≤ 0)
    (f_X12_into_132 s_far s_tune s_depths x1 z0 x3)
    (pgd (pin (x1 - (1 : Int32)) 48) (
    pbr (z0 ≤ ((s_far (x1 - (1 : Int32)).toNatClampNeg) + x3))
      (f_X12_into_132 s_far s_tune s_depths x1 z0 x3)
      (f_X12_into_133 s_far s_tune s_depths x1 x3 ((s_far (x1 - (1 : Int32)).toNatClampNeg) + x3))))

set_option maxRecDepth 100000 in
set_option maxHeartbeats 4000000 in
theorem k_X12_into_97 {p : Program} {l : Launch} {e : Env} {s : State} {m : MethodId} {args : Array Value} {below : List Frame} {meth : Method} {c : Code} {A : Nat → Prop} {D : va_G} {cA : Nat → ClassId} (C0 : MX p s m args meth c cX12_into 4 wsX12_into RX12 (some .int) D cA) (hA : ∀ q, s.heap.size ≤ q → A q) {a0 : Nat} {q_far : Nat} {q_tune : Nat} {q_depths : Nat} {q_text : Nat} {q_books : Nat} {q_told : Nat} {q_years : Nat} {q_months : Nat} {q_ring : Nat} {q_woods : Nat} {q_ends : Nat} {q_wood : Nat} {q_sheets : Nat} {q_marsh : Nat} {q_oldest : Nat} {q_youngest : Nat} {q_knowns : Nat} {q_known : Nat} {q_weight : Nat} {q_chance : Nat} {q_digs : Nat} {q_draft : Nat} {q_isKept : Nat} {s_trace : Int64} {s_typed : Int32} {s_earliest : Int32} {s_latest : Int32} {s_firstYear : Int32} {s_rings : Int32} {s_far : Nat → Int32} {s_tune : Nat → Int32} {s_depths : Nat → Int32} {x1 : Int32} {o_r : Int32} : ∀ (x3 : Int32) (z0 : Int32), f_X12_into_97 s_far s_tune s_depths x1 x3 z0 = some o_r → ∀ (H : Heap) (locs : List Loc), va_P D vwCl (w_X12_into a0 q_far q_tune q_depths q_text q_books q_told q_years q_months q_ring q_woods q_ends q_wood q_sheets q_marsh q_oldest q_youngest q_knowns q_known q_weight q_chance q_digs q_draft q_isKept cA s_trace s_typed s_earliest s_latest s_firstYear s_rings s_far s_tune s_depths) H → va_D A (w_X12_into a0 q_far q_tune q_depths q_text q_books q_told q_years q_months q_ring q_woods q_ends q_wood q_sheets q_marsh q_oldest q_youngest q_knowns q_known q_weight q_chance q_digs q_draft q_isKept cA s_trace s_typed s_earliest s_latest s_firstYear s_rings s_far s_tune s_depths) → va_S A s.heap H locs → ∀ ls : Array Slot, lv_has ls 4 [(0, .ref a0), (1, .int x1), (3, .int x3)] → W p l e rm_X12_into s m args below meth c H locs 0 0 (MQ below (CQ D (some (.int o_r)) (w_X12_into a0 q_far q_tune q_depths q_text q_books q_told q_years q_months q_ring q_woods q_ends q_wood q_sheets q_marsh q_oldest q_youngest q_knowns q_known q_weight q_chance q_digs q_draft q_isKept cA s_trace s_typed s_earliest s_latest s_firstYear s_rings s_far s_tune s_depths) A) args s 0 0 A) (F0 m 97 ls [.int z0]) := by
  obtain ⟨hx, hb, hml, hown, hts, hr, hlocks, hX⟩ := C0
  have hK := hX.1
  have hN := hX.2
  intro x3 z0 hf H locs hP hD hS ls hl
  unfold f_X12_into_97 at hf
  refine lv_istore_n (lv' := [(2, .int z0), (0, .ref a0), (1, .int x1), (3, .int x3)]) hx hb dX12_into_97 rfl hl (by decide) rfl (fun ls hl => ?_)
  refine lv_iload_n hx hb dX12_into_98 rfl (lv_at hl 2 rfl) ?_
  refine lv_bipush (v := (8 : Int32)) hx hb dX12_into_99 (by decide) ?_
  refine lv_irem hx hb dX12_into_101 (by decide) ?_
  refine lv_if_le (tgt := 132) hx hb dX12_into_102 (by decide) (fun c_1 => ?_) (fun c_1 => ?_)
  · have hf := pbr_t c_1 hf
    exact k_X12_into_132 ⟨hx, hb, hml, hown, hts, hr, hlocks, hX⟩ hA z0 x3 hf _ _ hP hD hS ls (lv_sub hl [1, 2, 0, 3] rfl)
  have hf := pbr_f c_1 hf
  refine lv_aload_n hx hb dX12_into_105 rfl (lv_at hl 1 rfl) ?_
  refine va_get (D := D) (ci := 12) (v := .ref q_far) (C := RX12) (T := TX12) (N := 29) hx hb hts hn_X12_into_X12 hown hK hP 0 rfl rfl 5 (by decide) (hts _ hw_X12_into_f20) (fun _ h9 => h9) rfl dX12_into_106 ?_
  refine lv_iload_n hx hb dX12_into_109 rfl (lv_at hl 2 rfl) ?_
  refine lv_iconst (v := (1 : Int32)) hx hb dX12_into_110 (by decide) ?_
  refine lv_isub hx hb dX12_into_111 ?_
  obtain ⟨g_2, hf⟩ := pgd_e hf
  refine va_iald hx hb hK hP 1 1 rfl rfl g_2 dX12_into_112 ?_
  refine lv_iload_n hx hb dX12_into_113 rfl (lv_at hl 3 rfl) ?_
  refine lv_iadd hx hb dX12_into_114 ?_
  refine lv_iload_n hx hb dX12_into_115 rfl (lv_at hl 0 rfl) ?_
  refine lv_icmp_ge (tgt := 132) hx hb dX12_into_116 (by decide) (fun c_3 => ?_) (fun c_3 => ?_)
  · have hf := pbr_t c_3 hf
    exact k_X12_into_132 ⟨hx, hb, hml, hown, hts, hr, hlocks, hX⟩ hA z0 x3 hf _ _ hP hD hS ls (lv_sub hl [1, 2, 0, 3] rfl)
  have hf := pbr_f c_3 hf
  refine lv_aload_n hx hb dX12_into_119 rfl (lv_at hl 1 rfl) ?_
  refine va_get (D := D) (ci := 12) (v := .ref q_far) (C := RX12) (T := TX12) (N := 29) hx hb hts hn_X12_into_X12 hown hK hP 0 rfl rfl 5 (by decide) (hts _ hw_X12_into_f20) (fun _ h9 => h9) rfl dX12_into_120 ?_
  refine lv_iload_n hx hb dX12_into_123 rfl (lv_at hl 2 rfl) ?_
  refine lv_iconst (v := (1 : Int32)) hx hb dX12_into_124 (by decide) ?_
  refine lv_isub hx hb dX12_into_125 ?_
  refine va_iald hx hb hK hP 1 1 rfl rfl g_2 dX12_into_126 ?_
  refine lv_iload_n hx hb dX12_into_127 rfl (lv_at hl 3 rfl) ?_
  refine lv_iadd hx hb dX12_into_128 ?_
  refine lv_goto (tgt := 133) hx hb dX12_into_129 (by decide) ?_
  exact k_X12_into_133 ⟨hx, hb, hml, hown, hts, hr, hlocks, hX⟩ hA x3 ((s_far (x1 - (1 : Int32)).toNatClampNeg) + x3) hf _ _ hP hD hS ls (lv_sub hl [1, 2, 3] rfl)

def f_X12_into_96 (s_far : Nat → Int32) (s_tune : Nat → Int32) (s_depths : Nat → Int32) (x1 : Int32) (x2 : Int32) (x3 : Int32) : Option ((Int32)) :=
  f_X12_into_97 s_far s_tune s_depths x1 x3 x2

set_option maxRecDepth 100000 in
set_option maxHeartbeats 4000000 in
theorem k_X12_into_96 {p : Program} {l : Launch} {e : Env} {s : State} {m : MethodId} {args : Array Value} {below : List Frame} {meth : Method} {c : Code} {A : Nat → Prop} {D : va_G} {cA : Nat → ClassId} (C0 : MX p s m args meth c cX12_into 4 wsX12_into RX12 (some .int) D cA) (hA : ∀ q, s.heap.size ≤ q → A q) {a0 : Nat} {q_far : Nat} {q_tune : Nat} {q_depths : Nat} {q_text : Nat} {q_books : Nat} {q_told : Nat} {q_years : Nat} {q_months : Nat} {q_ring : Nat} {q_woods : Nat} {q_ends : Nat} {q_wood : Nat} {q_sheets : Nat} {q_marsh : Nat} {q_oldest : Nat} {q_youngest : Nat} {q_knowns : Nat} {q_known : Nat} {q_weight : Nat} {q_chance : Nat} {q_digs : Nat} {q_draft : Nat} {q_isKept : Nat} {s_trace : Int64} {s_typed : Int32} {s_earliest : Int32} {s_latest : Int32} {s_firstYear : Int32} {s_rings : Int32} {s_far : Nat → Int32} {s_tune : Nat → Int32} {s_depths : Nat → Int32} {x1 : Int32} {o_r : Int32} : ∀ (x2 : Int32) (x3 : Int32), f_X12_into_96 s_far s_tune s_depths x1 x2 x3 = some o_r → ∀ (H : Heap) (locs : List Loc), va_P D vwCl (w_X12_into a0 q_far q_tune q_depths q_text q_books q_told q_years q_months q_ring q_woods q_ends q_wood q_sheets q_marsh q_oldest q_youngest q_knowns q_known q_weight q_chance q_digs q_draft q_isKept cA s_trace s_typed s_earliest s_latest s_firstYear s_rings s_far s_tune s_depths) H → va_D A (w_X12_into a0 q_far q_tune q_depths q_text q_books q_told q_years q_months q_ring q_woods q_ends q_wood q_sheets q_marsh q_oldest q_youngest q_knowns q_known q_weight q_chance q_digs q_draft q_isKept cA s_trace s_typed s_earliest s_latest s_firstYear s_rings s_far s_tune s_depths) → va_S A s.heap H locs → ∀ ls : Array Slot, lv_has ls 4 [(0, .ref a0), (1, .int x1), (2, .int x2), (3, .int x3)] → W p l e rm_X12_into s m args below meth c H locs 0 0 (MQ below (CQ D (some (.int o_r)) (w_X12_into a0 q_far q_tune q_depths q_text q_books q_told q_years q_months q_ring q_woods q_ends q_wood q_sheets q_marsh q_oldest q_youngest q_knowns q_known q_weight q_chance q_digs q_draft q_isKept cA s_trace s_typed s_earliest s_latest s_firstYear s_rings s_far s_tune s_depths) A) args s 0 0 A) (F0 m 96 ls []) := by
  obtain ⟨hx, hb, hml, hown, hts, hr, hlocks, hX⟩ := C0
  have hK := hX.1
  have hN := hX.2
  intro x2 x3 hf H locs hP hD hS ls hl
  unfold f_X12_into_96 at hf
  refine lv_iload_n hx hb dX12_into_96 rfl (lv_at hl 2 rfl) ?_
  exact k_X12_into_97 ⟨hx, hb, hml, hown, hts, hr, hlocks, hX⟩ hA x3 x2 hf _ _ hP hD hS ls (lv_sub hl [0, 1, 3] rfl)

def f_X12_into_60 (s_far : Nat → Int32) (s_tune : Nat → Int32) (s_depths : Nat → Int32) (x1 : Int32) (x3 : Int32) (z0 : Int32) : Option ((Int32)) :=
  pbr ((40 : Int32) ≤ x1)
    (f_X12_into_96 s_far s_tune s_depths x1 z0 x3)
    (pgd (pin (x1 + (8 : Int32)) 48) (
    pbr (z0 ≤ ((s_far (x1 + (8 : Int32)).toNatClampNeg) + x3))
      (f_X12_into_96 s_far s_tune s_depths x1 z0 x3)
      (f_X12_into_97 s_far s_tune s_depths x1 x3 ((s_far (x1 + (8 : Int32)).toNatClampNeg) + x3))))

set_option maxRecDepth 100000 in
set_option maxHeartbeats 4000000 in
theorem k_X12_into_60 {p : Program} {l : Launch} {e : Env} {s : State} {m : MethodId} {args : Array Value} {below : List Frame} {meth : Method} {c : Code} {A : Nat → Prop} {D : va_G} {cA : Nat → ClassId} (C0 : MX p s m args meth c cX12_into 4 wsX12_into RX12 (some .int) D cA) (hA : ∀ q, s.heap.size ≤ q → A q) {a0 : Nat} {q_far : Nat} {q_tune : Nat} {q_depths : Nat} {q_text : Nat} {q_books : Nat} {q_told : Nat} {q_years : Nat} {q_months : Nat} {q_ring : Nat} {q_woods : Nat} {q_ends : Nat} {q_wood : Nat} {q_sheets : Nat} {q_marsh : Nat} {q_oldest : Nat} {q_youngest : Nat} {q_knowns : Nat} {q_known : Nat} {q_weight : Nat} {q_chance : Nat} {q_digs : Nat} {q_draft : Nat} {q_isKept : Nat} {s_trace : Int64} {s_typed : Int32} {s_earliest : Int32} {s_latest : Int32} {s_firstYear : Int32} {s_rings : Int32} {s_far : Nat → Int32} {s_tune : Nat → Int32} {s_depths : Nat → Int32} {x1 : Int32} {o_r : Int32} : ∀ (x3 : Int32) (z0 : Int32), f_X12_into_60 s_far s_tune s_depths x1 x3 z0 = some o_r → ∀ (H : Heap) (locs : List Loc), va_P D vwCl (w_X12_into a0 q_far q_tune q_depths q_text q_books q_told q_years q_months q_ring q_woods q_ends q_wood q_sheets q_marsh q_oldest q_youngest q_knowns q_known q_weight q_chance q_digs q_draft q_isKept cA s_trace s_typed s_earliest s_latest s_firstYear s_rings s_far s_tune s_depths) H → va_D A (w_X12_into a0 q_far q_tune q_depths q_text q_books q_told q_years q_months q_ring q_woods q_ends q_wood q_sheets q_marsh q_oldest q_youngest q_knowns q_known q_weight q_chance q_digs q_draft q_isKept cA s_trace s_typed s_earliest s_latest s_firstYear s_rings s_far s_tune s_depths) → va_S A s.heap H locs → ∀ ls : Array Slot, lv_has ls 4 [(0, .ref a0), (1, .int x1), (3, .int x3)] → W p l e rm_X12_into s m args below meth c H locs 0 0 (MQ below (CQ D (some (.int o_r)) (w_X12_into a0 q_far q_tune q_depths q_text q_books q_told q_years q_months q_ring q_woods q_ends q_wood q_sheets q_marsh q_oldest q_youngest q_knowns q_known q_weight q_chance q_digs q_draft q_isKept cA s_trace s_typed s_earliest s_latest s_firstYear s_rings s_far s_tune s_depths) A) args s 0 0 A) (F0 m 60 ls [.int z0]) := by
  obtain ⟨hx, hb, hml, hown, hts, hr, hlocks, hX⟩ := C0
  have hK := hX.1
  have hN := hX.2
  intro x3 z0 hf H locs hP hD hS ls hl
  unfold f_X12_into_60 at hf
  refine lv_istore_n (lv' := [(2, .int z0), (0, .ref a0), (1, .int x1), (3, .int x3)]) hx hb dX12_into_60 rfl hl (by decide) rfl (fun ls hl => ?_)
  refine lv_iload_n hx hb dX12_into_61 rfl (lv_at hl 2 rfl) ?_
  refine lv_bipush (v := (40 : Int32)) hx hb dX12_into_62 (by decide) ?_
  refine lv_icmp_ge (tgt := 96) hx hb dX12_into_64 (by decide) (fun c_1 => ?_) (fun c_1 => ?_)
  · have hf := pbr_t c_1 hf
    exact k_X12_into_96 ⟨hx, hb, hml, hown, hts, hr, hlocks, hX⟩ hA z0 x3 hf _ _ hP hD hS ls (lv_sub hl [1, 2, 0, 3] rfl)
  have hf := pbr_f c_1 hf
  refine lv_aload_n hx hb dX12_into_67 rfl (lv_at hl 1 rfl) ?_
  refine va_get (D := D) (ci := 12) (v := .ref q_far) (C := RX12) (T := TX12) (N := 29) hx hb hts hn_X12_into_X12 hown hK hP 0 rfl rfl 5 (by decide) (hts _ hw_X12_into_f20) (fun _ h9 => h9) rfl dX12_into_68 ?_
  refine lv_iload_n hx hb dX12_into_71 rfl (lv_at hl 2 rfl) ?_
  refine lv_bipush (v := (8 : Int32)) hx hb dX12_into_72 (by decide) ?_
  refine lv_iadd hx hb dX12_into_74 ?_
  obtain ⟨g_2, hf⟩ := pgd_e hf
  refine va_iald hx hb hK hP 1 1 rfl rfl g_2 dX12_into_75 ?_
  refine lv_iload_n hx hb dX12_into_76 rfl (lv_at hl 3 rfl) ?_
  refine lv_iadd hx hb dX12_into_77 ?_
  refine lv_iload_n hx hb dX12_into_78 rfl (lv_at hl 0 rfl) ?_
  refine lv_icmp_ge (tgt := 96) hx hb dX12_into_79 (by decide) (fun c_3 => ?_) (fun c_3 => ?_)
  · have hf := pbr_t c_3 hf
    exact k_X12_into_96 ⟨hx, hb, hml, hown, hts, hr, hlocks, hX⟩ hA z0 x3 hf _ _ hP hD hS ls (lv_sub hl [1, 2, 0, 3] rfl)
  have hf := pbr_f c_3 hf
  refine lv_aload_n hx hb dX12_into_82 rfl (lv_at hl 1 rfl) ?_
  refine va_get (D := D) (ci := 12) (v := .ref q_far) (C := RX12) (T := TX12) (N := 29) hx hb hts hn_X12_into_X12 hown hK hP 0 rfl rfl 5 (by decide) (hts _ hw_X12_into_f20) (fun _ h9 => h9) rfl dX12_into_83 ?_
  refine lv_iload_n hx hb dX12_into_86 rfl (lv_at hl 2 rfl) ?_
  refine lv_bipush (v := (8 : Int32)) hx hb dX12_into_87 (by decide) ?_
  refine lv_iadd hx hb dX12_into_89 ?_
  refine va_iald hx hb hK hP 1 1 rfl rfl g_2 dX12_into_90 ?_
  refine lv_iload_n hx hb dX12_into_91 rfl (lv_at hl 3 rfl) ?_
  refine lv_iadd hx hb dX12_into_92 ?_
  refine lv_goto (tgt := 97) hx hb dX12_into_93 (by decide) ?_
  exact k_X12_into_97 ⟨hx, hb, hml, hown, hts, hr, hlocks, hX⟩ hA x3 ((s_far (x1 + (8 : Int32)).toNatClampNeg) + x3) hf _ _ hP hD hS ls (lv_sub hl [1, 2, 3] rfl)

def f_X12_into_59 (s_far : Nat → Int32) (s_tune : Nat → Int32) (s_depths : Nat → Int32) (x1 : Int32) (x2 : Int32) (x3 : Int32) : Option ((Int32)) :=
  f_X12_into_60 s_far s_tune s_depths x1 x3 x2

set_option maxRecDepth 100000 in
set_option maxHeartbeats 4000000 in
theorem k_X12_into_59 {p : Program} {l : Launch} {e : Env} {s : State} {m : MethodId} {args : Array Value} {below : List Frame} {meth : Method} {c : Code} {A : Nat → Prop} {D : va_G} {cA : Nat → ClassId} (C0 : MX p s m args meth c cX12_into 4 wsX12_into RX12 (some .int) D cA) (hA : ∀ q, s.heap.size ≤ q → A q) {a0 : Nat} {q_far : Nat} {q_tune : Nat} {q_depths : Nat} {q_text : Nat} {q_books : Nat} {q_told : Nat} {q_years : Nat} {q_months : Nat} {q_ring : Nat} {q_woods : Nat} {q_ends : Nat} {q_wood : Nat} {q_sheets : Nat} {q_marsh : Nat} {q_oldest : Nat} {q_youngest : Nat} {q_knowns : Nat} {q_known : Nat} {q_weight : Nat} {q_chance : Nat} {q_digs : Nat} {q_draft : Nat} {q_isKept : Nat} {s_trace : Int64} {s_typed : Int32} {s_earliest : Int32} {s_latest : Int32} {s_firstYear : Int32} {s_rings : Int32} {s_far : Nat → Int32} {s_tune : Nat → Int32} {s_depths : Nat → Int32} {x1 : Int32} {o_r : Int32} : ∀ (x2 : Int32) (x3 : Int32), f_X12_into_59 s_far s_tune s_depths x1 x2 x3 = some o_r → ∀ (H : Heap) (locs : List Loc), va_P D vwCl (w_X12_into a0 q_far q_tune q_depths q_text q_books q_told q_years q_months q_ring q_woods q_ends q_wood q_sheets q_marsh q_oldest q_youngest q_knowns q_known q_weight q_chance q_digs q_draft q_isKept cA s_trace s_typed s_earliest s_latest s_firstYear s_rings s_far s_tune s_depths) H → va_D A (w_X12_into a0 q_far q_tune q_depths q_text q_books q_told q_years q_months q_ring q_woods q_ends q_wood q_sheets q_marsh q_oldest q_youngest q_knowns q_known q_weight q_chance q_digs q_draft q_isKept cA s_trace s_typed s_earliest s_latest s_firstYear s_rings s_far s_tune s_depths) → va_S A s.heap H locs → ∀ ls : Array Slot, lv_has ls 4 [(0, .ref a0), (1, .int x1), (2, .int x2), (3, .int x3)] → W p l e rm_X12_into s m args below meth c H locs 0 0 (MQ below (CQ D (some (.int o_r)) (w_X12_into a0 q_far q_tune q_depths q_text q_books q_told q_years q_months q_ring q_woods q_ends q_wood q_sheets q_marsh q_oldest q_youngest q_knowns q_known q_weight q_chance q_digs q_draft q_isKept cA s_trace s_typed s_earliest s_latest s_firstYear s_rings s_far s_tune s_depths) A) args s 0 0 A) (F0 m 59 ls []) := by
  obtain ⟨hx, hb, hml, hown, hts, hr, hlocks, hX⟩ := C0
  have hK := hX.1
  have hN := hX.2
  intro x2 x3 hf H locs hP hD hS ls hl
  unfold f_X12_into_59 at hf
  refine lv_iload_n hx hb dX12_into_59 rfl (lv_at hl 2 rfl) ?_
  exact k_X12_into_60 ⟨hx, hb, hml, hown, hts, hr, hlocks, hX⟩ hA x3 x2 hf _ _ hP hD hS ls (lv_sub hl [0, 1, 3] rfl)

def f_X12_into (x1 : Int32) (s_far : Nat → Int32) (s_tune : Nat → Int32) (s_depths : Nat → Int32) : Option ((Int32)) :=
  pgd (pin x1 48) (
  plt ((s_far x1.toNatClampNeg) : Int32) (fun x2_2 => (
  pgd (pin x1 96) (
  plt (((s_tune (0 : Int32).toNatClampNeg) * ((10 : Int32) - (s_depths x1.toNatClampNeg))) : Int32) (fun x3_4 => (
  pbr (x1 < (8 : Int32))
    (f_X12_into_59 s_far s_tune s_depths x1 x2_2 x3_4)
    (pgd (pin (x1 - (8 : Int32)) 48) (
    pbr (x2_2 ≤ ((s_far (x1 - (8 : Int32)).toNatClampNeg) + x3_4))
      (f_X12_into_59 s_far s_tune s_depths x1 x2_2 x3_4)
      (f_X12_into_60 s_far s_tune s_depths x1 x3_4 ((s_far (x1 - (8 : Int32)).toNatClampNeg) + x3_4))))))))))

set_option maxRecDepth 100000 in
set_option maxHeartbeats 4000000 in
theorem ct_X12_into (l : Launch) (D : va_G) (cA : Nat → ClassId) (x1 : Int32) (a0 : Nat) (q_far : Nat) (q_tune : Nat) (q_depths : Nat) (q_text : Nat) (q_books : Nat) (q_told : Nat) (q_years : Nat) (q_months : Nat) (q_ring : Nat) (q_woods : Nat) (q_ends : Nat) (q_wood : Nat) (q_sheets : Nat) (q_marsh : Nat) (q_oldest : Nat) (q_youngest : Nat) (q_knowns : Nat) (q_known : Nat) (q_weight : Nat) (q_chance : Nat) (q_digs : Nat) (q_draft : Nat) (q_isKept : Nat) (s_trace : Int64) (s_typed : Int32) (s_earliest : Int32) (s_latest : Int32) (s_firstYear : Int32) (s_rings : Int32) (s_far : Nat → Int32) (s_tune : Nat → Int32) (s_depths : Nat → Int32) (o_r : Int32) (hf : f_X12_into x1 s_far s_tune s_depths = some o_r) : CT l yX12_into wsX12_into rm_X12_into D cA [.ref a0, .int x1] (w_X12_into a0 q_far q_tune q_depths q_text q_books q_told q_years q_months q_ring q_woods q_ends q_wood q_sheets q_marsh q_oldest q_youngest q_knowns q_known q_weight q_chance q_digs q_draft q_isKept cA s_trace s_typed s_earliest s_latest s_firstYear s_rings s_far s_tune s_depths) (w_X12_into a0 q_far q_tune q_depths q_text q_books q_told q_years q_months q_ring q_woods q_ends q_wood q_sheets q_marsh q_oldest q_youngest q_knowns q_known q_weight q_chance q_digs q_draft q_isKept cA s_trace s_typed s_earliest s_latest s_firstYear s_rings s_far s_tune s_depths) (some (.int o_r)) := by
  refine CT.ofW (cc := cX12_into) (maxL := 4) (ret := (some .int)) (by decide +kernel) rfl (Nat.le_of_ble_eq_true rfl) ?_
  intro p e s m below meth c A C0 hA hP hD ls hl
  have C0 : MX p s m [.ref a0, .int x1].toArray meth c cX12_into 4 wsX12_into RX12 (some .int) D cA := C0
  have hl : lv_has ls 4 [(0, .ref a0), (1, .int x1)] := hl
  obtain ⟨hx, hb, hml, hown, hts, hr, hlocks, hX⟩ := id C0
  have hK := hX.1
  have hN := hX.2
  have hS : va_S A s.heap s.heap [] := va_S.rf
  unfold f_X12_into at hf
  refine lv_aload_n hx hb dX12_into_0 rfl (lv_at hl 0 rfl) ?_
  refine va_get (D := D) (ci := 12) (v := .ref q_far) (C := RX12) (T := TX12) (N := 29) hx hb hts hn_X12_into_X12 hown hK hP 0 rfl rfl 5 (by decide) (hts _ hw_X12_into_f20) (fun _ h9 => h9) rfl dX12_into_1 ?_
  refine lv_iload_n hx hb dX12_into_4 rfl (lv_at hl 1 rfl) ?_
  obtain ⟨g_1, hf⟩ := pgd_e hf
  refine va_iald hx hb hK hP 1 1 rfl rfl g_1 dX12_into_5 ?_
  refine lv_topi (fun x2_2 ex2_2 => ?_)
  have hf := plt_e ex2_2 hf
  refine lv_istore_n (lv' := [(2, .int x2_2), (0, .ref a0), (1, .int x1)]) hx hb dX12_into_6 rfl hl (by decide) rfl (fun ls hl => ?_)
  refine lv_aload_n hx hb dX12_into_7 rfl (lv_at hl 1 rfl) ?_
  refine va_get (D := D) (ci := 12) (v := .ref q_tune) (C := RX12) (T := TX12) (N := 29) hx hb hts hn_X12_into_X12 hown hK hP 0 rfl rfl 4 (by decide) (hts _ hw_X12_into_f17) (fun _ h9 => h9) rfl dX12_into_8 ?_
  refine lv_iconst (v := (0 : Int32)) hx hb dX12_into_11 (by decide) ?_
  refine va_iald hx hb hK hP 2 1 rfl rfl (show pin (0 : Int32) 3 by decide +kernel) dX12_into_12 ?_
  refine lv_bipush (v := (10 : Int32)) hx hb dX12_into_13 (by decide) ?_
  refine lv_aload_n hx hb dX12_into_15 rfl (lv_at hl 1 rfl) ?_
  refine va_get (D := D) (ci := 12) (v := .ref q_depths) (C := RX12) (T := TX12) (N := 29) hx hb hts hn_X12_into_X12 hown hK hP 0 rfl rfl 3 (by decide) (hts _ hw_X12_into_f13) (fun _ h9 => h9) rfl dX12_into_16 ?_
  refine lv_iload_n hx hb dX12_into_19 rfl (lv_at hl 2 rfl) ?_
  obtain ⟨g_3, hf⟩ := pgd_e hf
  refine va_iald hx hb hK hP 3 1 rfl rfl g_3 dX12_into_20 ?_
  refine lv_isub hx hb dX12_into_21 ?_
  refine lv_imul hx hb dX12_into_22 ?_
  refine lv_topi (fun x3_4 ex3_4 => ?_)
  have hf := plt_e ex3_4 hf
  refine lv_istore_n (lv' := [(3, .int x3_4), (2, .int x2_2), (0, .ref a0), (1, .int x1)]) hx hb dX12_into_23 rfl hl (by decide) rfl (fun ls hl => ?_)
  refine lv_iload_n hx hb dX12_into_24 rfl (lv_at hl 3 rfl) ?_
  refine lv_bipush (v := (8 : Int32)) hx hb dX12_into_25 (by decide) ?_
  refine lv_icmp_lt (tgt := 59) hx hb dX12_into_27 (by decide) (fun c_5 => ?_) (fun c_5 => ?_)
  · have hf := pbr_t c_5 hf
    exact k_X12_into_59 C0 hA x2_2 x3_4 hf _ _ hP hD hS ls (lv_sub hl [2, 3, 1, 0] rfl)
  have hf := pbr_f c_5 hf
  refine lv_aload_n hx hb dX12_into_30 rfl (lv_at hl 2 rfl) ?_
  refine va_get (D := D) (ci := 12) (v := .ref q_far) (C := RX12) (T := TX12) (N := 29) hx hb hts hn_X12_into_X12 hown hK hP 0 rfl rfl 5 (by decide) (hts _ hw_X12_into_f20) (fun _ h9 => h9) rfl dX12_into_31 ?_
  refine lv_iload_n hx hb dX12_into_34 rfl (lv_at hl 3 rfl) ?_
  refine lv_bipush (v := (8 : Int32)) hx hb dX12_into_35 (by decide) ?_
  refine lv_isub hx hb dX12_into_37 ?_
  obtain ⟨g_6, hf⟩ := pgd_e hf
  refine va_iald hx hb hK hP 1 1 rfl rfl g_6 dX12_into_38 ?_
  refine lv_iload_n hx hb dX12_into_39 rfl (lv_at hl 0 rfl) ?_
  refine lv_iadd hx hb dX12_into_40 ?_
  refine lv_iload_n hx hb dX12_into_41 rfl (lv_at hl 1 rfl) ?_
  refine lv_icmp_ge (tgt := 59) hx hb dX12_into_42 (by decide) (fun c_7 => ?_) (fun c_7 => ?_)
  · have hf := pbr_t c_7 hf
    exact k_X12_into_59 C0 hA x2_2 x3_4 hf _ _ hP hD hS ls (lv_sub hl [2, 3, 1, 0] rfl)
  have hf := pbr_f c_7 hf
  refine lv_aload_n hx hb dX12_into_45 rfl (lv_at hl 2 rfl) ?_
  refine va_get (D := D) (ci := 12) (v := .ref q_far) (C := RX12) (T := TX12) (N := 29) hx hb hts hn_X12_into_X12 hown hK hP 0 rfl rfl 5 (by decide) (hts _ hw_X12_into_f20) (fun _ h9 => h9) rfl dX12_into_46 ?_
  refine lv_iload_n hx hb dX12_into_49 rfl (lv_at hl 3 rfl) ?_
  refine lv_bipush (v := (8 : Int32)) hx hb dX12_into_50 (by decide) ?_
  refine lv_isub hx hb dX12_into_52 ?_
  refine va_iald hx hb hK hP 1 1 rfl rfl g_6 dX12_into_53 ?_
  refine lv_iload_n hx hb dX12_into_54 rfl (lv_at hl 0 rfl) ?_
  refine lv_iadd hx hb dX12_into_55 ?_
  refine lv_goto (tgt := 60) hx hb dX12_into_56 (by decide) ?_
  exact k_X12_into_60 C0 hA x3_4 ((s_far (x1 - (8 : Int32)).toNatClampNeg) + x3_4) hf _ _ hP hD hS ls (lv_sub hl [2, 3, 0] rfl)
