/-! ===== OrphanWaveModel.like(II)I ===== -/
abbrev rm_X12_like : Room := { frames := 2, cells := 0, slots := 0, locals := 42 }
abbrev w_X12_like (a0 : Nat) (q_woods : Nat) (q_wood : Nat) (q_ring : Nat) (q_text : Nat) (q_depths : Nat) (q_tune : Nat) (q_far : Nat) (q_books : Nat) (q_told : Nat) (q_years : Nat) (q_months : Nat) (q_ends : Nat) (q_sheets : Nat) (q_marsh : Nat) (q_oldest : Nat) (q_youngest : Nat) (q_knowns : Nat) (q_known : Nat) (q_weight : Nat) (q_chance : Nat) (q_digs : Nat) (q_draft : Nat) (q_isKept : Nat) (cA : Nat → ClassId) (s_trace : Int64) (s_typed : Int32) (s_earliest : Int32) (s_latest : Int32) (s_firstYear : Int32) (s_rings : Int32) (s_woods : Nat → Int32) (s_wood : Nat → Int32) (s_ring : Nat → Int32) : va_W := [(a0, .inr (12, [.long s_trace, .ref q_text, .int s_typed, .ref q_depths, .ref q_tune, .ref q_far, .ref q_books, .ref q_told, .int s_earliest, .int s_latest, .ref q_years, .ref q_months, .int s_firstYear, .int s_rings, .ref q_ring, .ref q_woods, .ref q_ends, .ref q_wood, .ref q_sheets, .ref q_marsh, .ref q_oldest, .ref q_youngest, .ref q_knowns, .ref q_known, .ref q_weight, .ref q_chance, .ref q_digs, .ref q_draft, .ref q_isKept])), (q_woods, .inl (cA 1, 4, .inl s_woods)), (q_wood, .inl (cA 1, 120, .inl s_wood)), (q_ring, .inl (cA 1, 60, .inl s_ring))]
theorem hn_X12_like_X12 : ∀ w ∈ u_ws RX12 TX12 29, w ∈ wsX12_like := by decide +kernel
theorem hw_X12_like_f38 : Cond.fieldLink RX12 38 "OrphanWaveModel" "woods" "[I" ∈ wsX12_like := by decide +kernel
theorem hw_X12_like_f141 : Cond.fieldLink RX12 141 "OrphanWaveModel" "rings" "I" ∈ wsX12_like := by decide +kernel

def f_X12_like (x1 : Int32) (x2 : Int32) (s_rings : Int32) (s_woods : Nat → Int32) (s_wood : Nat → Int32) (s_ring : Nat → Int32) : Option ((Int32)) :=
  pcl (f_X12_isWood x1) (fun r_1 => (
  pbr (r_1 = 0)
    (some ((-1 : Int32)))
    (pgd (pin x1 4) (
    pbr ((s_woods x1.toNatClampNeg) ≤ (1 : Int32))
      (some ((-1 : Int32)))
      (pcl (f_X12_in x2 (0 : Int32) (s_rings - (s_woods x1.toNatClampNeg))) (fun r_6 => (
      pbr (r_6 = 0)
        (some ((-1 : Int32)))
        (pcl (f_X12_likeOf x1 x2 s_woods s_wood s_ring) (fun r_9 => (
        some (r_9)))))))))))

set_option maxRecDepth 100000 in
set_option maxHeartbeats 4000000 in
theorem ct_X12_like (l : Launch) (D : va_G) (cA : Nat → ClassId) (x1 : Int32) (x2 : Int32) (a0 : Nat) (q_woods : Nat) (q_wood : Nat) (q_ring : Nat) (q_text : Nat) (q_depths : Nat) (q_tune : Nat) (q_far : Nat) (q_books : Nat) (q_told : Nat) (q_years : Nat) (q_months : Nat) (q_ends : Nat) (q_sheets : Nat) (q_marsh : Nat) (q_oldest : Nat) (q_youngest : Nat) (q_knowns : Nat) (q_known : Nat) (q_weight : Nat) (q_chance : Nat) (q_digs : Nat) (q_draft : Nat) (q_isKept : Nat) (s_trace : Int64) (s_typed : Int32) (s_earliest : Int32) (s_latest : Int32) (s_firstYear : Int32) (s_rings : Int32) (s_woods : Nat → Int32) (s_wood : Nat → Int32) (s_ring : Nat → Int32) (o_r : Int32) (hf : f_X12_like x1 x2 s_rings s_woods s_wood s_ring = some o_r) : CT l yX12_like wsX12_like rm_X12_like D cA [.ref a0, .int x1, .int x2] (w_X12_like a0 q_woods q_wood q_ring q_text q_depths q_tune q_far q_books q_told q_years q_months q_ends q_sheets q_marsh q_oldest q_youngest q_knowns q_known q_weight q_chance q_digs q_draft q_isKept cA s_trace s_typed s_earliest s_latest s_firstYear s_rings s_woods s_wood s_ring) (w_X12_like a0 q_woods q_wood q_ring q_text q_depths q_tune q_far q_books q_told q_years q_months q_ends q_sheets q_marsh q_oldest q_youngest q_knowns q_known q_weight q_chance q_digs q_draft q_isKept cA s_trace s_typed s_earliest s_latest s_firstYear s_rings s_woods s_wood s_ring) (some (.int o_r)) := by
  refine CT.ofW (cc := cX12_like) (maxL := 3) (ret := (some .int)) (by decide +kernel) rfl (Nat.le_of_ble_eq_true rfl) ?_
  intro p e s m below meth c A C0 hA hP hD ls hl
  have C0 : MX p s m [.ref a0, .int x1, .int x2].toArray meth c cX12_like 3 wsX12_like RX12 (some .int) D cA := C0
  have hl : lv_has ls 3 [(0, .ref a0), (1, .int x1), (2, .int x2)] := hl
  obtain ⟨hx, hb, hml, hown, hts, hr, hlocks, hX⟩ := id C0
  have hK := hX.1
  have hN := hX.2
  have hS : va_S A s.heap s.heap [] := va_S.rf
  unfold f_X12_like at hf
  refine lv_iload_n hx hb dX12_like_0 rfl (lv_at hl 1 rfl) ?_
  obtain ⟨r_1, hc_2, hf⟩ := pcl_e hf
  refine m_callS2 (As := [.int x1]) (rest := []) ⟨hx, hb, hml, hown, hts⟩ hX (ct_X12_isWood l D cA x1 r_1 hc_2) (va_cwS 1 hts gX12_like_X12_isWood rfl rfl rfl (by decide +kernel) ⟨Nat.le_of_ble_eq_true rfl, Nat.le_of_ble_eq_true rfl⟩) hP hD hS hA [] [0, 1, 2, 3] 4 (by decide) rfl rfl (WS' := (w_X12_like a0 q_woods q_wood q_ring q_text q_depths q_tune q_far q_books q_told q_years q_months q_ends q_sheets q_marsh q_oldest q_youngest q_knowns q_known q_weight q_chance q_digs q_draft q_isKept cA s_trace s_typed s_earliest s_latest s_firstYear s_rings s_woods s_wood s_ring)) (WR := [(a0, .inr (12, [.long s_trace, .ref q_text, .int s_typed, .ref q_depths, .ref q_tune, .ref q_far, .ref q_books, .ref q_told, .int s_earliest, .int s_latest, .ref q_years, .ref q_months, .int s_firstYear, .int s_rings, .ref q_ring, .ref q_woods, .ref q_ends, .ref q_wood, .ref q_sheets, .ref q_marsh, .ref q_oldest, .ref q_youngest, .ref q_knowns, .ref q_known, .ref q_weight, .ref q_chance, .ref q_digs, .ref q_draft, .ref q_isKept])), (q_woods, .inl (cA 1, 4, .inl s_woods)), (q_wood, .inl (cA 1, 120, .inl s_wood)), (q_ring, .inl (cA 1, 60, .inl s_ring))]) rfl rfl rfl rfl (by decide) (by decide) rfl hl.1 rfl (st' := [.int r_1]) rfl (Nat.le_of_ble_eq_true rfl) ⟨Nat.zero_le _, Nat.zero_le _⟩ dX12_like_1 (fun H locs hP hD hS => ?_)
  refine lv_if_eq (tgt := 45) hx hb dX12_like_4 (by decide) (fun c_3 => ?_) (fun c_3 => ?_)
  · have hf := pbr_t c_3 hf
    refine lv_iconst (v := (-1 : Int32)) hx hb dX12_like_45 (by decide) ?_
    obtain rfl := pe1 hf
    exact m_iret hx hb hr hlocks hP hS dX12_like_46
  have hf := pbr_f c_3 hf
  refine lv_aload_n hx hb dX12_like_7 rfl (lv_at hl 0 rfl) ?_
  refine va_get (D := D) (ci := 12) (v := .ref q_woods) (C := RX12) (T := TX12) (N := 29) hx hb hts hn_X12_like_X12 hown hK hP 0 rfl rfl 15 (by decide) (hts _ hw_X12_like_f38) (fun _ h9 => h9) rfl dX12_like_8 ?_
  refine lv_iload_n hx hb dX12_like_11 rfl (lv_at hl 1 rfl) ?_
  obtain ⟨g_4, hf⟩ := pgd_e hf
  refine va_iald hx hb hK hP 1 1 rfl rfl g_4 dX12_like_12 ?_
  refine lv_iconst (v := (1 : Int32)) hx hb dX12_like_13 (by decide) ?_
  refine lv_icmp_le (tgt := 45) hx hb dX12_like_14 (by decide) (fun c_5 => ?_) (fun c_5 => ?_)
  · have hf := pbr_t c_5 hf
    refine lv_iconst (v := (-1 : Int32)) hx hb dX12_like_45 (by decide) ?_
    obtain rfl := pe1 hf
    exact m_iret hx hb hr hlocks hP hS dX12_like_46
  have hf := pbr_f c_5 hf
  refine lv_iload_n hx hb dX12_like_17 rfl (lv_at hl 2 rfl) ?_
  refine lv_iconst (v := (0 : Int32)) hx hb dX12_like_18 (by decide) ?_
  refine lv_aload_n hx hb dX12_like_19 rfl (lv_at hl 0 rfl) ?_
  refine va_get (D := D) (ci := 12) (v := .int s_rings) (C := RX12) (T := TX12) (N := 29) hx hb hts hn_X12_like_X12 hown hK hP 0 rfl rfl 13 (by decide) (hts _ hw_X12_like_f141) (fun _ h9 => h9) rfl dX12_like_20 ?_
  refine lv_aload_n hx hb dX12_like_23 rfl (lv_at hl 0 rfl) ?_
  refine va_get (D := D) (ci := 12) (v := .ref q_woods) (C := RX12) (T := TX12) (N := 29) hx hb hts hn_X12_like_X12 hown hK hP 0 rfl rfl 15 (by decide) (hts _ hw_X12_like_f38) (fun _ h9 => h9) rfl dX12_like_24 ?_
  refine lv_iload_n hx hb dX12_like_27 rfl (lv_at hl 1 rfl) ?_
  refine va_iald hx hb hK hP 1 1 rfl rfl g_4 dX12_like_28 ?_
  refine lv_isub hx hb dX12_like_29 ?_
  obtain ⟨r_6, hc_7, hf⟩ := pcl_e hf
  refine m_callS2 (As := [.int x2, .int (0 : Int32), .int (s_rings - (s_woods x1.toNatClampNeg))]) (rest := []) ⟨hx, hb, hml, hown, hts⟩ hX (ct_X12_in l D cA x2 (0 : Int32) (s_rings - (s_woods x1.toNatClampNeg)) r_6 hc_7) (va_cwS 3 hts gX12_like_X12_in rfl rfl rfl (by decide +kernel) ⟨Nat.le_of_ble_eq_true rfl, Nat.le_of_ble_eq_true rfl⟩) hP hD hS hA [] [0, 1, 2, 3] 4 (by decide) rfl rfl (WS' := (w_X12_like a0 q_woods q_wood q_ring q_text q_depths q_tune q_far q_books q_told q_years q_months q_ends q_sheets q_marsh q_oldest q_youngest q_knowns q_known q_weight q_chance q_digs q_draft q_isKept cA s_trace s_typed s_earliest s_latest s_firstYear s_rings s_woods s_wood s_ring)) (WR := [(a0, .inr (12, [.long s_trace, .ref q_text, .int s_typed, .ref q_depths, .ref q_tune, .ref q_far, .ref q_books, .ref q_told, .int s_earliest, .int s_latest, .ref q_years, .ref q_months, .int s_firstYear, .int s_rings, .ref q_ring, .ref q_woods, .ref q_ends, .ref q_wood, .ref q_sheets, .ref q_marsh, .ref q_oldest, .ref q_youngest, .ref q_knowns, .ref q_known, .ref q_weight, .ref q_chance, .ref q_digs, .ref q_draft, .ref q_isKept])), (q_woods, .inl (cA 1, 4, .inl s_woods)), (q_wood, .inl (cA 1, 120, .inl s_wood)), (q_ring, .inl (cA 1, 60, .inl s_ring))]) rfl rfl rfl rfl (by decide) (by decide) rfl hl.1 rfl (st' := [.int r_6]) rfl (Nat.le_of_ble_eq_true rfl) ⟨Nat.zero_le _, Nat.zero_le _⟩ dX12_like_30 (fun H locs hP hD hS => ?_)
  refine lv_if_eq (tgt := 45) hx hb dX12_like_33 (by decide) (fun c_8 => ?_) (fun c_8 => ?_)
  · have hf := pbr_t c_8 hf
    refine lv_iconst (v := (-1 : Int32)) hx hb dX12_like_45 (by decide) ?_
    obtain rfl := pe1 hf
    exact m_iret hx hb hr hlocks hP hS dX12_like_46
  have hf := pbr_f c_8 hf
  refine lv_aload_n hx hb dX12_like_36 rfl (lv_at hl 0 rfl) ?_
  refine lv_iload_n hx hb dX12_like_37 rfl (lv_at hl 1 rfl) ?_
  refine lv_iload_n hx hb dX12_like_38 rfl (lv_at hl 2 rfl) ?_
  obtain ⟨r_9, hc_10, hf⟩ := pcl_e hf
  refine m_callV2 (As := [.int x1, .int x2]) (rest := []) ⟨hx, hb, hml, hown, hts⟩ hX (ct_X12_likeOf l D cA x1 x2 a0 q_woods q_wood q_ring q_text q_depths q_tune q_far q_books q_told q_years q_months q_ends q_sheets q_marsh q_oldest q_youngest q_knowns q_known q_weight q_chance q_digs q_draft q_isKept s_trace s_typed s_earliest s_latest s_firstYear s_rings s_woods s_wood s_ring r_9 hc_10) (cwV 2 hts gX12_like_X12_likeOf rfl rfl rfl (by decide +kernel) ⟨Nat.le_of_ble_eq_true rfl, Nat.le_of_ble_eq_true rfl⟩) hP hD hS hA [0, 1, 2, 3] [] 4 (by decide) rfl rfl (WS' := (w_X12_like a0 q_woods q_wood q_ring q_text q_depths q_tune q_far q_books q_told q_years q_months q_ends q_sheets q_marsh q_oldest q_youngest q_knowns q_known q_weight q_chance q_digs q_draft q_isKept cA s_trace s_typed s_earliest s_latest s_firstYear s_rings s_woods s_wood s_ring)) (WR := []) rfl rfl rfl rfl (by decide) (by decide) 0 12 rfl rfl rfl hl.1 rfl (st' := [.int r_9]) rfl (Nat.le_of_ble_eq_true rfl) ⟨Nat.zero_le _, Nat.zero_le _⟩ dX12_like_39 (fun H locs hP hD hS => ?_)
  refine lv_goto (tgt := 46) hx hb dX12_like_42 (by decide) ?_
  obtain rfl := pe1 hf
  exact m_iret hx hb hr hlocks hP hS dX12_like_46

/-! ===== OrphanWaveModel.laidOf(I)I ===== -/
abbrev rm_X12_laidOf : Room := { frames := 1, cells := 0, slots := 0, locals := 26 }
abbrev w_X12_laidOf (a0 : Nat) (q_woods : Nat) (q_wood : Nat) (q_ring : Nat) (q_text : Nat) (q_depths : Nat) (q_tune : Nat) (q_far : Nat) (q_books : Nat) (q_told : Nat) (q_years : Nat) (q_months : Nat) (q_ends : Nat) (q_sheets : Nat) (q_marsh : Nat) (q_oldest : Nat) (q_youngest : Nat) (q_knowns : Nat) (q_known : Nat) (q_weight : Nat) (q_chance : Nat) (q_digs : Nat) (q_draft : Nat) (q_isKept : Nat) (cA : Nat → ClassId) (s_trace : Int64) (s_typed : Int32) (s_earliest : Int32) (s_latest : Int32) (s_firstYear : Int32) (s_rings : Int32) (s_woods : Nat → Int32) (s_wood : Nat → Int32) (s_ring : Nat → Int32) : va_W := [(a0, .inr (12, [.long s_trace, .ref q_text, .int s_typed, .ref q_depths, .ref q_tune, .ref q_far, .ref q_books, .ref q_told, .int s_earliest, .int s_latest, .ref q_years, .ref q_months, .int s_firstYear, .int s_rings, .ref q_ring, .ref q_woods, .ref q_ends, .ref q_wood, .ref q_sheets, .ref q_marsh, .ref q_oldest, .ref q_youngest, .ref q_knowns, .ref q_known, .ref q_weight, .ref q_chance, .ref q_digs, .ref q_draft, .ref q_isKept])), (q_woods, .inl (cA 1, 4, .inl s_woods)), (q_wood, .inl (cA 1, 120, .inl s_wood)), (q_ring, .inl (cA 1, 60, .inl s_ring))]
theorem hn_X12_laidOf_X12 : ∀ w ∈ u_ws RX12 TX12 29, w ∈ wsX12_laidOf := by decide +kernel
theorem hw_X12_laidOf_f38 : Cond.fieldLink RX12 38 "OrphanWaveModel" "woods" "[I" ∈ wsX12_laidOf := by decide +kernel
theorem hw_X12_laidOf_f141 : Cond.fieldLink RX12 141 "OrphanWaveModel" "rings" "I" ∈ wsX12_laidOf := by decide +kernel

def f_X12_laidOf_55 (r8 : (Int32) → (Int32) → (Int32) → Option ((Int32))) (s_rings : Int32) (s_woods : Nat → Int32) (s_wood : Nat → Int32) (s_ring : Nat → Int32) (x1 : Int32) (x3 : Int32) (x4 : Int32) (x5 : Int32) (z0 : Int32) : Option ((Int32)) :=
  pbr (x5 ≤ x3)
    (plt (x4 + (1 : Int32) : Int32) (fun x4_2 => (
    r8 z0 x3 x4_2)))
    (plt (x4 + (1 : Int32) : Int32) (fun x4_3 => (
    r8 z0 x5 x4_3)))

set_option maxRecDepth 100000 in
set_option maxHeartbeats 4000000 in
theorem k_X12_laidOf_55 {p : Program} {l : Launch} {e : Env} {s : State} {m : MethodId} {args : Array Value} {below : List Frame} {meth : Method} {c : Code} {A : Nat → Prop} {D : va_G} {cA : Nat → ClassId} (C0 : MX p s m args meth c cX12_laidOf 6 wsX12_laidOf RX12 (some .int) D cA) (hA : ∀ q, s.heap.size ≤ q → A q) {a0 : Nat} {q_woods : Nat} {q_wood : Nat} {q_ring : Nat} {q_text : Nat} {q_depths : Nat} {q_tune : Nat} {q_far : Nat} {q_books : Nat} {q_told : Nat} {q_years : Nat} {q_months : Nat} {q_ends : Nat} {q_sheets : Nat} {q_marsh : Nat} {q_oldest : Nat} {q_youngest : Nat} {q_knowns : Nat} {q_known : Nat} {q_weight : Nat} {q_chance : Nat} {q_digs : Nat} {q_draft : Nat} {q_isKept : Nat} {s_trace : Int64} {s_typed : Int32} {s_earliest : Int32} {s_latest : Int32} {s_firstYear : Int32} {s_rings : Int32} {s_woods : Nat → Int32} {s_wood : Nat → Int32} {s_ring : Nat → Int32} {x1 : Int32} {o_r : Int32} {r8 : (Int32) → (Int32) → (Int32) → Option ((Int32))} (hr8 : ∀ (x2 : Int32) (x3 : Int32) (x4 : Int32), r8 x2 x3 x4 = some o_r → ∀ (H : Heap) (locs : List Loc), va_P D vwCl (w_X12_laidOf a0 q_woods q_wood q_ring q_text q_depths q_tune q_far q_books q_told q_years q_months q_ends q_sheets q_marsh q_oldest q_youngest q_knowns q_known q_weight q_chance q_digs q_draft q_isKept cA s_trace s_typed s_earliest s_latest s_firstYear s_rings s_woods s_wood s_ring) H → va_D A (w_X12_laidOf a0 q_woods q_wood q_ring q_text q_depths q_tune q_far q_books q_told q_years q_months q_ends q_sheets q_marsh q_oldest q_youngest q_knowns q_known q_weight q_chance q_digs q_draft q_isKept cA s_trace s_typed s_earliest s_latest s_firstYear s_rings s_woods s_wood s_ring) → va_S A s.heap H locs → ∀ ls : Array Slot, lv_has ls 6 [(0, .ref a0), (1, .int x1), (2, .int x2), (3, .int x3), (4, .int x4)] → W p l e rm_X12_laidOf s m args below meth c H locs 0 0 (MQ below (CQ D (some (.int o_r)) (w_X12_laidOf a0 q_woods q_wood q_ring q_text q_depths q_tune q_far q_books q_told q_years q_months q_ends q_sheets q_marsh q_oldest q_youngest q_knowns q_known q_weight q_chance q_digs q_draft q_isKept cA s_trace s_typed s_earliest s_latest s_firstYear s_rings s_woods s_wood s_ring) A) args s 0 0 A) (F0 m 8 ls [])) : ∀ (x3 : Int32) (x4 : Int32) (x5 : Int32) (z0 : Int32), f_X12_laidOf_55 r8 s_rings s_woods s_wood s_ring x1 x3 x4 x5 z0 = some o_r → ∀ (H : Heap) (locs : List Loc), va_P D vwCl (w_X12_laidOf a0 q_woods q_wood q_ring q_text q_depths q_tune q_far q_books q_told q_years q_months q_ends q_sheets q_marsh q_oldest q_youngest q_knowns q_known q_weight q_chance q_digs q_draft q_isKept cA s_trace s_typed s_earliest s_latest s_firstYear s_rings s_woods s_wood s_ring) H → va_D A (w_X12_laidOf a0 q_woods q_wood q_ring q_text q_depths q_tune q_far q_books q_told q_years q_months q_ends q_sheets q_marsh q_oldest q_youngest q_knowns q_known q_weight q_chance q_digs q_draft q_isKept cA s_trace s_typed s_earliest s_latest s_firstYear s_rings s_woods s_wood s_ring) → va_S A s.heap H locs → ∀ ls : Array Slot, lv_has ls 6 [(0, .ref a0), (1, .int x1), (3, .int x3), (4, .int x4), (5, .int x5)] → W p l e rm_X12_laidOf s m args below meth c H locs 0 0 (MQ below (CQ D (some (.int o_r)) (w_X12_laidOf a0 q_woods q_wood q_ring q_text q_depths q_tune q_far q_books q_told q_years q_months q_ends q_sheets q_marsh q_oldest q_youngest q_knowns q_known q_weight q_chance q_digs q_draft q_isKept cA s_trace s_typed s_earliest s_latest s_firstYear s_rings s_woods s_wood s_ring) A) args s 0 0 A) (F0 m 55 ls [.int z0]) := by
  obtain ⟨hx, hb, hml, hown, hts, hr, hlocks, hX⟩ := C0
  have hK := hX.1
  have hN := hX.2
  intro x3 x4 x5 z0 hf H locs hP hD hS ls hl
  unfold f_X12_laidOf_55 at hf
  refine lv_istore_n (lv' := [(2, .int z0), (0, .ref a0), (1, .int x1), (3, .int x3), (4, .int x4), (5, .int x5)]) hx hb dX12_laidOf_55 rfl hl (by decide) rfl (fun ls hl => ?_)
  refine lv_iload hx hb dX12_laidOf_56 (lv_at hl 5 rfl) ?_
  refine lv_iload_n hx hb dX12_laidOf_58 rfl (lv_at hl 3 rfl) ?_
  refine lv_icmp_le (tgt := 67) hx hb dX12_laidOf_59 (by decide) (fun c_1 => ?_) (fun c_1 => ?_)
  · have hf := pbr_t c_1 hf
    refine lv_iload_n hx hb dX12_laidOf_67 rfl (lv_at hl 3 rfl) ?_
    refine lv_istore_n (lv' := [(3, .int x3), (2, .int z0), (0, .ref a0), (1, .int x1), (4, .int x4), (5, .int x5)]) hx hb dX12_laidOf_68 rfl hl (by decide) rfl (fun ls hl => ?_)
    obtain ⟨x4_2, ex4_2⟩ : ∃ z : Int32, z = x4 + (1 : Int32) := ⟨_, rfl⟩
    have hf := plt_e ex4_2 hf
    refine lv_iinc (v := x4_2) (lv' := [(4, .int x4_2), (3, .int x3), (2, .int z0), (0, .ref a0), (1, .int x1), (5, .int x5)]) hx hb dX12_laidOf_69 hl (k := 4) rfl (by rw [ex4_2]; rfl) (by decide) rfl (fun ls hl => ?_)
    refine lv_goto (tgt := 8) hx hb dX12_laidOf_72 (by decide) ?_
    exact hr8 z0 x3 x4_2 hf _ _ hP hD hS ls (lv_sub hl [3, 4, 2, 1, 0] rfl)
  have hf := pbr_f c_1 hf
  refine lv_iload hx hb dX12_laidOf_62 (lv_at hl 5 rfl) ?_
  refine lv_goto (tgt := 68) hx hb dX12_laidOf_64 (by decide) ?_
  refine lv_istore_n (lv' := [(3, .int x5), (2, .int z0), (0, .ref a0), (1, .int x1), (4, .int x4), (5, .int x5)]) hx hb dX12_laidOf_68 rfl hl (by decide) rfl (fun ls hl => ?_)
  obtain ⟨x4_3, ex4_3⟩ : ∃ z : Int32, z = x4 + (1 : Int32) := ⟨_, rfl⟩
  have hf := plt_e ex4_3 hf
  refine lv_iinc (v := x4_3) (lv' := [(4, .int x4_3), (3, .int x5), (2, .int z0), (0, .ref a0), (1, .int x1), (5, .int x5)]) hx hb dX12_laidOf_69 hl (k := 4) rfl (by rw [ex4_3]; rfl) (by decide) rfl (fun ls hl => ?_)
  refine lv_goto (tgt := 8) hx hb dX12_laidOf_72 (by decide) ?_
  exact hr8 z0 x5 x4_3 hf _ _ hP hD hS ls (lv_sub hl [3, 4, 2, 1, 0] rfl)

def f_X12_laidOf_8 (s_rings : Int32) (s_woods : Nat → Int32) (s_wood : Nat → Int32) (s_ring : Nat → Int32) (x1 : Int32) : Nat → (Int32) → (Int32) → (Int32) → Option ((Int32))
  | 0, _, _, _ => none
  | k + 1, x2, x3, x4 =>
    pgd (pin x1 4) (
    pbr (s_rings < (x4 + (s_woods x1.toNatClampNeg)))
      (some (x2))
      (pbr ((s_woods x1.toNatClampNeg) ≤ (1 : Int32))
        (some (x2))
        (pcl (f_X12_likeOf x1 x4 s_woods s_wood s_ring) (fun r_4 => (
        pbr (r_4 ≤ x3)
          (f_X12_laidOf_55 (f_X12_laidOf_8 s_rings s_woods s_wood s_ring x1 k) s_rings s_woods s_wood s_ring x1 x3 x4 r_4 x2)
          (f_X12_laidOf_55 (f_X12_laidOf_8 s_rings s_woods s_wood s_ring x1 k) s_rings s_woods s_wood s_ring x1 x3 x4 r_4 x4))))))

set_option maxRecDepth 100000 in
set_option maxHeartbeats 4000000 in
theorem k_X12_laidOf_8 {p : Program} {l : Launch} {e : Env} {s : State} {m : MethodId} {args : Array Value} {below : List Frame} {meth : Method} {c : Code} {A : Nat → Prop} {D : va_G} {cA : Nat → ClassId} (C0 : MX p s m args meth c cX12_laidOf 6 wsX12_laidOf RX12 (some .int) D cA) (hA : ∀ q, s.heap.size ≤ q → A q) {a0 : Nat} {q_woods : Nat} {q_wood : Nat} {q_ring : Nat} {q_text : Nat} {q_depths : Nat} {q_tune : Nat} {q_far : Nat} {q_books : Nat} {q_told : Nat} {q_years : Nat} {q_months : Nat} {q_ends : Nat} {q_sheets : Nat} {q_marsh : Nat} {q_oldest : Nat} {q_youngest : Nat} {q_knowns : Nat} {q_known : Nat} {q_weight : Nat} {q_chance : Nat} {q_digs : Nat} {q_draft : Nat} {q_isKept : Nat} {s_trace : Int64} {s_typed : Int32} {s_earliest : Int32} {s_latest : Int32} {s_firstYear : Int32} {s_rings : Int32} {s_woods : Nat → Int32} {s_wood : Nat → Int32} {s_ring : Nat → Int32} {x1 : Int32} {o_r : Int32} : ∀ (k : Nat) (x2 : Int32) (x3 : Int32) (x4 : Int32), f_X12_laidOf_8 s_rings s_woods s_wood s_ring x1 k x2 x3 x4 = some o_r → ∀ (H : Heap) (locs : List Loc), va_P D vwCl (w_X12_laidOf a0 q_woods q_wood q_ring q_text q_depths q_tune q_far q_books q_told q_years q_months q_ends q_sheets q_marsh q_oldest q_youngest q_knowns q_known q_weight q_chance q_digs q_draft q_isKept cA s_trace s_typed s_earliest s_latest s_firstYear s_rings s_woods s_wood s_ring) H → va_D A (w_X12_laidOf a0 q_woods q_wood q_ring q_text q_depths q_tune q_far q_books q_told q_years q_months q_ends q_sheets q_marsh q_oldest q_youngest q_knowns q_known q_weight q_chance q_digs q_draft q_isKept cA s_trace s_typed s_earliest s_latest s_firstYear s_rings s_woods s_wood s_ring) → va_S A s.heap H locs → ∀ ls : Array Slot, lv_has ls 6 [(0, .ref a0), (1, .int x1), (2, .int x2), (3, .int x3), (4, .int x4)] → W p l e rm_X12_laidOf s m args below meth c H locs 0 0 (MQ below (CQ D (some (.int o_r)) (w_X12_laidOf a0 q_woods q_wood q_ring q_text q_depths q_tune q_far q_books q_told q_years q_months q_ends q_sheets q_marsh q_oldest q_youngest q_knowns q_known q_weight q_chance q_digs q_draft q_isKept cA s_trace s_typed s_earliest s_latest s_firstYear s_rings s_woods s_wood s_ring) A) args s 0 0 A) (F0 m 8 ls []) := by
  obtain ⟨hx, hb, hml, hown, hts, hr, hlocks, hX⟩ := C0
  have hK := hX.1
  have hN := hX.2
  intro k
  induction k with
  | zero =>
    intro x2 x3 x4 hf
    cases hf
  | succ k ih =>
    intro x2 x3 x4 hf H locs hP hD hS ls hl
    rw [f_X12_laidOf_8] at hf
    refine lv_iload hx hb dX12_laidOf_8 (lv_at hl 4 rfl) ?_
    refine lv_aload_n hx hb dX12_laidOf_10 rfl (lv_at hl 0 rfl) ?_
    refine va_get (D := D) (ci := 12) (v := .ref q_woods) (C := RX12) (T := TX12) (N := 29) hx hb hts hn_X12_laidOf_X12 hown hK hP 0 rfl rfl 15 (by decide) (hts _ hw_X12_laidOf_f38) (fun _ h9 => h9) rfl dX12_laidOf_11 ?_
    refine lv_iload_n hx hb dX12_laidOf_14 rfl (lv_at hl 1 rfl) ?_
    obtain ⟨g_1, hf⟩ := pgd_e hf
    refine va_iald hx hb hK hP 1 1 rfl rfl g_1 dX12_laidOf_15 ?_
    refine lv_iadd hx hb dX12_laidOf_16 ?_
    refine lv_aload_n hx hb dX12_laidOf_17 rfl (lv_at hl 0 rfl) ?_
    refine va_get (D := D) (ci := 12) (v := .int s_rings) (C := RX12) (T := TX12) (N := 29) hx hb hts hn_X12_laidOf_X12 hown hK hP 0 rfl rfl 13 (by decide) (hts _ hw_X12_laidOf_f141) (fun _ h9 => h9) rfl dX12_laidOf_18 ?_
    refine lv_icmp_gt (tgt := 75) hx hb dX12_laidOf_21 (by decide) (fun c_2 => ?_) (fun c_2 => ?_)
    · have hf := pbr_t c_2 hf
      refine lv_iload_n hx hb dX12_laidOf_75 rfl (lv_at hl 2 rfl) ?_
      obtain rfl := pe1 hf
      exact m_iret hx hb hr hlocks hP hS dX12_laidOf_76
    have hf := pbr_f c_2 hf
    refine lv_aload_n hx hb dX12_laidOf_24 rfl (lv_at hl 0 rfl) ?_
    refine va_get (D := D) (ci := 12) (v := .ref q_woods) (C := RX12) (T := TX12) (N := 29) hx hb hts hn_X12_laidOf_X12 hown hK hP 0 rfl rfl 15 (by decide) (hts _ hw_X12_laidOf_f38) (fun _ h9 => h9) rfl dX12_laidOf_25 ?_
    refine lv_iload_n hx hb dX12_laidOf_28 rfl (lv_at hl 1 rfl) ?_
    refine va_iald hx hb hK hP 1 1 rfl rfl g_1 dX12_laidOf_29 ?_
    refine lv_iconst (v := (1 : Int32)) hx hb dX12_laidOf_30 (by decide) ?_
    refine lv_icmp_le (tgt := 75) hx hb dX12_laidOf_31 (by decide) (fun c_3 => ?_) (fun c_3 => ?_)
    · have hf := pbr_t c_3 hf
      refine lv_iload_n hx hb dX12_laidOf_75 rfl (lv_at hl 2 rfl) ?_
      obtain rfl := pe1 hf
      exact m_iret hx hb hr hlocks hP hS dX12_laidOf_76
    have hf := pbr_f c_3 hf
    refine lv_aload_n hx hb dX12_laidOf_34 rfl (lv_at hl 0 rfl) ?_
    refine lv_iload_n hx hb dX12_laidOf_35 rfl (lv_at hl 1 rfl) ?_
    refine lv_iload hx hb dX12_laidOf_36 (lv_at hl 4 rfl) ?_
    obtain ⟨r_4, hc_5, hf⟩ := pcl_e hf
    refine m_callV2 (As := [.int x1, .int x4]) (rest := []) ⟨hx, hb, hml, hown, hts⟩ hX (ct_X12_likeOf l D cA x1 x4 a0 q_woods q_wood q_ring q_text q_depths q_tune q_far q_books q_told q_years q_months q_ends q_sheets q_marsh q_oldest q_youngest q_knowns q_known q_weight q_chance q_digs q_draft q_isKept s_trace s_typed s_earliest s_latest s_firstYear s_rings s_woods s_wood s_ring r_4 hc_5) (cwV 2 hts gX12_laidOf_X12_likeOf rfl rfl rfl (by decide +kernel) ⟨Nat.le_of_ble_eq_true rfl, Nat.le_of_ble_eq_true rfl⟩) hP hD hS hA [0, 1, 2, 3] [] 4 (by decide) rfl rfl (WS' := (w_X12_laidOf a0 q_woods q_wood q_ring q_text q_depths q_tune q_far q_books q_told q_years q_months q_ends q_sheets q_marsh q_oldest q_youngest q_knowns q_known q_weight q_chance q_digs q_draft q_isKept cA s_trace s_typed s_earliest s_latest s_firstYear s_rings s_woods s_wood s_ring)) (WR := []) rfl rfl rfl rfl (by decide) (by decide) 0 12 rfl rfl rfl hl.1 rfl (st' := [.int r_4]) rfl (Nat.le_of_ble_eq_true rfl) ⟨Nat.zero_le _, Nat.zero_le _⟩ dX12_laidOf_38 (fun H locs hP hD hS => ?_)
    refine lv_istore (lv' := [(5, .int r_4), (0, .ref a0), (1, .int x1), (2, .int x2), (3, .int x3), (4, .int x4)]) hx hb dX12_laidOf_41 hl (by decide) rfl (fun ls hl => ?_)
    refine lv_iload hx hb dX12_laidOf_43 (lv_at hl 0 rfl) ?_
    refine lv_iload_n hx hb dX12_laidOf_45 rfl (lv_at hl 4 rfl) ?_
    refine lv_icmp_le (tgt := 54) hx hb dX12_laidOf_46 (by decide) (fun c_6 => ?_) (fun c_6 => ?_)
    · have hf := pbr_t c_6 hf
      refine lv_iload_n hx hb dX12_laidOf_54 rfl (lv_at hl 3 rfl) ?_
      exact k_X12_laidOf_55 ⟨hx, hb, hml, hown, hts, hr, hlocks, hX⟩ hA ih x3 x4 r_4 x2 hf _ _ hP hD hS ls (lv_sub hl [1, 2, 4, 5, 0] rfl)
    have hf := pbr_f c_6 hf
    refine lv_iload hx hb dX12_laidOf_49 (lv_at hl 5 rfl) ?_
    refine lv_goto (tgt := 55) hx hb dX12_laidOf_51 (by decide) ?_
    exact k_X12_laidOf_55 ⟨hx, hb, hml, hown, hts, hr, hlocks, hX⟩ hA ih x3 x4 r_4 x4 hf _ _ hP hD hS ls (lv_sub hl [1, 2, 4, 5, 0] rfl)

def f_X12_laidOf (x1 : Int32) (s_rings : Int32) (s_woods : Nat → Int32) (s_wood : Nat → Int32) (s_ring : Nat → Int32) : Option ((Int32)) :=
  f_X12_laidOf_8 s_rings s_woods s_wood s_ring x1 FU (-9 : Int32) (-1 : Int32) (0 : Int32)

set_option maxRecDepth 100000 in
set_option maxHeartbeats 4000000 in
theorem ct_X12_laidOf (l : Launch) (D : va_G) (cA : Nat → ClassId) (x1 : Int32) (a0 : Nat) (q_woods : Nat) (q_wood : Nat) (q_ring : Nat) (q_text : Nat) (q_depths : Nat) (q_tune : Nat) (q_far : Nat) (q_books : Nat) (q_told : Nat) (q_years : Nat) (q_months : Nat) (q_ends : Nat) (q_sheets : Nat) (q_marsh : Nat) (q_oldest : Nat) (q_youngest : Nat) (q_knowns : Nat) (q_known : Nat) (q_weight : Nat) (q_chance : Nat) (q_digs : Nat) (q_draft : Nat) (q_isKept : Nat) (s_trace : Int64) (s_typed : Int32) (s_earliest : Int32) (s_latest : Int32) (s_firstYear : Int32) (s_rings : Int32) (s_woods : Nat → Int32) (s_wood : Nat → Int32) (s_ring : Nat → Int32) (o_r : Int32) (hf : f_X12_laidOf x1 s_rings s_woods s_wood s_ring = some o_r) : CT l yX12_laidOf wsX12_laidOf rm_X12_laidOf D cA [.ref a0, .int x1] (w_X12_laidOf a0 q_woods q_wood q_ring q_text q_depths q_tune q_far q_books q_told q_years q_months q_ends q_sheets q_marsh q_oldest q_youngest q_knowns q_known q_weight q_chance q_digs q_draft q_isKept cA s_trace s_typed s_earliest s_latest s_firstYear s_rings s_woods s_wood s_ring) (w_X12_laidOf a0 q_woods q_wood q_ring q_text q_depths q_tune q_far q_books q_told q_years q_months q_ends q_sheets q_marsh q_oldest q_youngest q_knowns q_known q_weight q_chance q_digs q_draft q_isKept cA s_trace s_typed s_earliest s_latest s_firstYear s_rings s_woods s_wood s_ring) (some (.int o_r)) := by
  refine CT.ofW (cc := cX12_laidOf) (maxL := 6) (ret := (some .int)) (by decide +kernel) rfl (Nat.le_of_ble_eq_true rfl) ?_
  intro p e s m below meth c A C0 hA hP hD ls hl
  have C0 : MX p s m [.ref a0, .int x1].toArray meth c cX12_laidOf 6 wsX12_laidOf RX12 (some .int) D cA := C0
  have hl : lv_has ls 6 [(0, .ref a0), (1, .int x1)] := hl
  obtain ⟨hx, hb, hml, hown, hts, hr, hlocks, hX⟩ := id C0
  have hK := hX.1
  have hN := hX.2
  have hS : va_S A s.heap s.heap [] := va_S.rf
  unfold f_X12_laidOf at hf
  refine lv_bipush (v := (-9 : Int32)) hx hb dX12_laidOf_0 (by decide) ?_
  refine lv_istore_n (lv' := [(2, .int (-9 : Int32)), (0, .ref a0), (1, .int x1)]) hx hb dX12_laidOf_2 rfl hl (by decide) rfl (fun ls hl => ?_)
  refine lv_iconst (v := (-1 : Int32)) hx hb dX12_laidOf_3 (by decide) ?_
  refine lv_istore_n (lv' := [(3, .int (-1 : Int32)), (2, .int (-9 : Int32)), (0, .ref a0), (1, .int x1)]) hx hb dX12_laidOf_4 rfl hl (by decide) rfl (fun ls hl => ?_)
  refine lv_iconst (v := (0 : Int32)) hx hb dX12_laidOf_5 (by decide) ?_
  refine lv_istore (lv' := [(4, .int (0 : Int32)), (3, .int (-1 : Int32)), (2, .int (-9 : Int32)), (0, .ref a0), (1, .int x1)]) hx hb dX12_laidOf_6 hl (by decide) rfl (fun ls hl => ?_)
  exact k_X12_laidOf_8 C0 hA FU (-9 : Int32) (-1 : Int32) (0 : Int32) hf _ _ hP hD hS ls (lv_sub hl [3, 4, 2, 1, 0] rfl)

/-! ===== OrphanWaveModel.died(II)I ===== -/
abbrev rm_X12_died : Room := { frames := 2, cells := 0, slots := 0, locals := 51 }
abbrev w_X12_died (a0 : Nat) (q_woods : Nat) (q_wood : Nat) (q_ring : Nat) (q_ends : Nat) (q_text : Nat) (q_depths : Nat) (q_tune : Nat) (q_far : Nat) (q_books : Nat) (q_told : Nat) (q_years : Nat) (q_months : Nat) (q_sheets : Nat) (q_marsh : Nat) (q_oldest : Nat) (q_youngest : Nat) (q_knowns : Nat) (q_known : Nat) (q_weight : Nat) (q_chance : Nat) (q_digs : Nat) (q_draft : Nat) (q_isKept : Nat) (cA : Nat → ClassId) (s_trace : Int64) (s_typed : Int32) (s_earliest : Int32) (s_latest : Int32) (s_firstYear : Int32) (s_rings : Int32) (s_woods : Nat → Int32) (s_wood : Nat → Int32) (s_ring : Nat → Int32) (s_ends : Nat → Int32) : va_W := [(a0, .inr (12, [.long s_trace, .ref q_text, .int s_typed, .ref q_depths, .ref q_tune, .ref q_far, .ref q_books, .ref q_told, .int s_earliest, .int s_latest, .ref q_years, .ref q_months, .int s_firstYear, .int s_rings, .ref q_ring, .ref q_woods, .ref q_ends, .ref q_wood, .ref q_sheets, .ref q_marsh, .ref q_oldest, .ref q_youngest, .ref q_knowns, .ref q_known, .ref q_weight, .ref q_chance, .ref q_digs, .ref q_draft, .ref q_isKept])), (q_woods, .inl (cA 1, 4, .inl s_woods)), (q_wood, .inl (cA 1, 120, .inl s_wood)), (q_ring, .inl (cA 1, 60, .inl s_ring)), (q_ends, .inl (cA 1, 4, .inl s_ends))]
theorem hn_X12_died_X12 : ∀ w ∈ u_ws RX12 TX12 29, w ∈ wsX12_died := by decide +kernel
theorem hw_X12_died_f41 : Cond.fieldLink RX12 41 "OrphanWaveModel" "ends" "[I" ∈ wsX12_died := by decide +kernel
theorem hw_X12_died_f82 : Cond.fieldLink RX12 82 "OrphanWaveModel" "firstYear" "I" ∈ wsX12_died := by decide +kernel
theorem hw_X12_died_f38 : Cond.fieldLink RX12 38 "OrphanWaveModel" "woods" "[I" ∈ wsX12_died := by decide +kernel

def f_X12_died (x1 : Int32) (x2 : Int32) (s_firstYear : Int32) (s_rings : Int32) (s_woods : Nat → Int32) (s_wood : Nat → Int32) (s_ring : Nat → Int32) (s_ends : Nat → Int32) : Option ((Int32)) :=
  pcl (f_X12_isWood x1) (fun r_1 => (
  pbr (r_1 = 0)
    (some ((-1 : Int32)))
    (pcl (f_X12_in x2 (0 : Int32) (2 : Int32)) (fun r_4 => (
    pbr (r_4 = 0)
      (some ((-1 : Int32)))
      (pcl (f_X12_laidOf x1 s_rings s_woods s_wood s_ring) (fun r_7 => (
      pbr (r_7 = (-9 : Int32))
        (some (r_7))
        (pbr (x2 = 0)
          (some (r_7))
          (pbr (x2 = (1 : Int32))
            (pgd (pin x1 4) (
            some ((((s_firstYear + r_7) + (s_woods x1.toNatClampNeg)) - (1 : Int32)))))
            (pgd (pin x1 4) (
            some ((s_ends x1.toNatClampNeg))))))))))))))

set_option maxRecDepth 100000 in
set_option maxHeartbeats 4000000 in
theorem ct_X12_died (l : Launch) (D : va_G) (cA : Nat → ClassId) (x1 : Int32) (x2 : Int32) (a0 : Nat) (q_woods : Nat) (q_wood : Nat) (q_ring : Nat) (q_ends : Nat) (q_text : Nat) (q_depths : Nat) (q_tune : Nat) (q_far : Nat) (q_books : Nat) (q_told : Nat) (q_years : Nat) (q_months : Nat) (q_sheets : Nat) (q_marsh : Nat) (q_oldest : Nat) (q_youngest : Nat) (q_knowns : Nat) (q_known : Nat) (q_weight : Nat) (q_chance : Nat) (q_digs : Nat) (q_draft : Nat) (q_isKept : Nat) (s_trace : Int64) (s_typed : Int32) (s_earliest : Int32) (s_latest : Int32) (s_firstYear : Int32) (s_rings : Int32) (s_woods : Nat → Int32) (s_wood : Nat → Int32) (s_ring : Nat → Int32) (s_ends : Nat → Int32) (o_r : Int32) (hf : f_X12_died x1 x2 s_firstYear s_rings s_woods s_wood s_ring s_ends = some o_r) : CT l yX12_died wsX12_died rm_X12_died D cA [.ref a0, .int x1, .int x2] (w_X12_died a0 q_woods q_wood q_ring q_ends q_text q_depths q_tune q_far q_books q_told q_years q_months q_sheets q_marsh q_oldest q_youngest q_knowns q_known q_weight q_chance q_digs q_draft q_isKept cA s_trace s_typed s_earliest s_latest s_firstYear s_rings s_woods s_wood s_ring s_ends) (w_X12_died a0 q_woods q_wood q_ring q_ends q_text q_depths q_tune q_far q_books q_told q_years q_months q_sheets q_marsh q_oldest q_youngest q_knowns q_known q_weight q_chance q_digs q_draft q_isKept cA s_trace s_typed s_earliest s_latest s_firstYear s_rings s_woods s_wood s_ring s_ends) (some (.int o_r)) := by
  refine CT.ofW (cc := cX12_died) (maxL := 4) (ret := (some .int)) (by decide +kernel) rfl (Nat.le_of_ble_eq_true rfl) ?_
  intro p e s m below meth c A C0 hA hP hD ls hl
  have C0 : MX p s m [.ref a0, .int x1, .int x2].toArray meth c cX12_died 4 wsX12_died RX12 (some .int) D cA := C0
  have hl : lv_has ls 4 [(0, .ref a0), (1, .int x1), (2, .int x2)] := hl
  obtain ⟨hx, hb, hml, hown, hts, hr, hlocks, hX⟩ := id C0
  have hK := hX.1
  have hN := hX.2
  have hS : va_S A s.heap s.heap [] := va_S.rf
  unfold f_X12_died at hf
  refine lv_iload_n hx hb dX12_died_0 rfl (lv_at hl 1 rfl) ?_
  obtain ⟨r_1, hc_2, hf⟩ := pcl_e hf
  refine m_callS2 (As := [.int x1]) (rest := []) ⟨hx, hb, hml, hown, hts⟩ hX (ct_X12_isWood l D cA x1 r_1 hc_2) (va_cwS 1 hts gX12_died_X12_isWood rfl rfl rfl (by decide +kernel) ⟨Nat.le_of_ble_eq_true rfl, Nat.le_of_ble_eq_true rfl⟩) hP hD hS hA [] [0, 1, 2, 3, 4] 5 (by decide) rfl rfl (WS' := (w_X12_died a0 q_woods q_wood q_ring q_ends q_text q_depths q_tune q_far q_books q_told q_years q_months q_sheets q_marsh q_oldest q_youngest q_knowns q_known q_weight q_chance q_digs q_draft q_isKept cA s_trace s_typed s_earliest s_latest s_firstYear s_rings s_woods s_wood s_ring s_ends)) (WR := [(a0, .inr (12, [.long s_trace, .ref q_text, .int s_typed, .ref q_depths, .ref q_tune, .ref q_far, .ref q_books, .ref q_told, .int s_earliest, .int s_latest, .ref q_years, .ref q_months, .int s_firstYear, .int s_rings, .ref q_ring, .ref q_woods, .ref q_ends, .ref q_wood, .ref q_sheets, .ref q_marsh, .ref q_oldest, .ref q_youngest, .ref q_knowns, .ref q_known, .ref q_weight, .ref q_chance, .ref q_digs, .ref q_draft, .ref q_isKept])), (q_woods, .inl (cA 1, 4, .inl s_woods)), (q_wood, .inl (cA 1, 120, .inl s_wood)), (q_ring, .inl (cA 1, 60, .inl s_ring)), (q_ends, .inl (cA 1, 4, .inl s_ends))]) rfl rfl rfl rfl (by decide) (by decide) rfl hl.1 rfl (st' := [.int r_1]) rfl (Nat.le_of_ble_eq_true rfl) ⟨Nat.zero_le _, Nat.zero_le _⟩ dX12_died_1 (fun H locs hP hD hS => ?_)
  refine lv_if_eq (tgt := 16) hx hb dX12_died_4 (by decide) (fun c_3 => ?_) (fun c_3 => ?_)
  · have hf := pbr_t c_3 hf
    refine lv_iconst (v := (-1 : Int32)) hx hb dX12_died_16 (by decide) ?_
    obtain rfl := pe1 hf
    exact m_iret hx hb hr hlocks hP hS dX12_died_17
  have hf := pbr_f c_3 hf
  refine lv_iload_n hx hb dX12_died_7 rfl (lv_at hl 2 rfl) ?_
  refine lv_iconst (v := (0 : Int32)) hx hb dX12_died_8 (by decide) ?_
  refine lv_iconst (v := (2 : Int32)) hx hb dX12_died_9 (by decide) ?_
  obtain ⟨r_4, hc_5, hf⟩ := pcl_e hf
  refine m_callS2 (As := [.int x2, .int (0 : Int32), .int (2 : Int32)]) (rest := []) ⟨hx, hb, hml, hown, hts⟩ hX (ct_X12_in l D cA x2 (0 : Int32) (2 : Int32) r_4 hc_5) (va_cwS 3 hts gX12_died_X12_in rfl rfl rfl (by decide +kernel) ⟨Nat.le_of_ble_eq_true rfl, Nat.le_of_ble_eq_true rfl⟩) hP hD hS hA [] [0, 1, 2, 3, 4] 5 (by decide) rfl rfl (WS' := (w_X12_died a0 q_woods q_wood q_ring q_ends q_text q_depths q_tune q_far q_books q_told q_years q_months q_sheets q_marsh q_oldest q_youngest q_knowns q_known q_weight q_chance q_digs q_draft q_isKept cA s_trace s_typed s_earliest s_latest s_firstYear s_rings s_woods s_wood s_ring s_ends)) (WR := [(a0, .inr (12, [.long s_trace, .ref q_text, .int s_typed, .ref q_depths, .ref q_tune, .ref q_far, .ref q_books, .ref q_told, .int s_earliest, .int s_latest, .ref q_years, .ref q_months, .int s_firstYear, .int s_rings, .ref q_ring, .ref q_woods, .ref q_ends, .ref q_wood, .ref q_sheets, .ref q_marsh, .ref q_oldest, .ref q_youngest, .ref q_knowns, .ref q_known, .ref q_weight, .ref q_chance, .ref q_digs, .ref q_draft, .ref q_isKept])), (q_woods, .inl (cA 1, 4, .inl s_woods)), (q_wood, .inl (cA 1, 120, .inl s_wood)), (q_ring, .inl (cA 1, 60, .inl s_ring)), (q_ends, .inl (cA 1, 4, .inl s_ends))]) rfl rfl rfl rfl (by decide) (by decide) rfl hl.1 rfl (st' := [.int r_4]) rfl (Nat.le_of_ble_eq_true rfl) ⟨Nat.zero_le _, Nat.zero_le _⟩ dX12_died_10 (fun H locs hP hD hS => ?_)
  refine lv_if_ne (tgt := 18) hx hb dX12_died_13 (by decide) (fun c_6 => ?_) (fun c_6 => ?_)
  · have hf := pbr_f c_6 hf
    refine lv_aload_n hx hb dX12_died_18 rfl (lv_at hl 0 rfl) ?_
    refine lv_iload_n hx hb dX12_died_19 rfl (lv_at hl 1 rfl) ?_
    obtain ⟨r_7, hc_8, hf⟩ := pcl_e hf
    refine m_callV2 (As := [.int x1]) (rest := []) ⟨hx, hb, hml, hown, hts⟩ hX (ct_X12_laidOf l D cA x1 a0 q_woods q_wood q_ring q_text q_depths q_tune q_far q_books q_told q_years q_months q_ends q_sheets q_marsh q_oldest q_youngest q_knowns q_known q_weight q_chance q_digs q_draft q_isKept s_trace s_typed s_earliest s_latest s_firstYear s_rings s_woods s_wood s_ring r_7 hc_8) (cwV 1 hts gX12_died_X12_laidOf rfl rfl rfl (by decide +kernel) ⟨Nat.le_of_ble_eq_true rfl, Nat.le_of_ble_eq_true rfl⟩) hP hD hS hA [0, 1, 2, 3] [4] 5 (by decide) rfl rfl (WS' := (w_X12_died a0 q_woods q_wood q_ring q_ends q_text q_depths q_tune q_far q_books q_told q_years q_months q_sheets q_marsh q_oldest q_youngest q_knowns q_known q_weight q_chance q_digs q_draft q_isKept cA s_trace s_typed s_earliest s_latest s_firstYear s_rings s_woods s_wood s_ring s_ends)) (WR := [(q_ends, .inl (cA 1, 4, .inl s_ends))]) rfl rfl rfl rfl (by decide) (by decide) 0 12 rfl rfl rfl hl.1 rfl (st' := [.int r_7]) rfl (Nat.le_of_ble_eq_true rfl) ⟨Nat.zero_le _, Nat.zero_le _⟩ dX12_died_20 (fun H locs hP hD hS => ?_)
    refine lv_istore_n (lv' := [(3, .int r_7), (0, .ref a0), (1, .int x1), (2, .int x2)]) hx hb dX12_died_23 rfl hl (by decide) rfl (fun ls hl => ?_)
    refine lv_iload_n hx hb dX12_died_24 rfl (lv_at hl 0 rfl) ?_
    refine lv_bipush (v := (-9 : Int32)) hx hb dX12_died_25 (by decide) ?_
    refine lv_icmp_eq (tgt := 34) hx hb dX12_died_27 (by decide) (fun c_9 => ?_) (fun c_9 => ?_)
    · have hf := pbr_t c_9 hf
      refine lv_iload_n hx hb dX12_died_34 rfl (lv_at hl 0 rfl) ?_
      refine lv_goto (tgt := 67) hx hb dX12_died_35 (by decide) ?_
      obtain rfl := pe1 hf
      exact m_iret hx hb hr hlocks hP hS dX12_died_67
    have hf := pbr_f c_9 hf
    refine lv_iload_n hx hb dX12_died_30 rfl (lv_at hl 3 rfl) ?_
    refine lv_if_ne (tgt := 38) hx hb dX12_died_31 (by decide) (fun c_10 => ?_) (fun c_10 => ?_)
    · have hf := pbr_f c_10 hf
      refine lv_iload_n hx hb dX12_died_38 rfl (lv_at hl 3 rfl) ?_
      refine lv_iconst (v := (1 : Int32)) hx hb dX12_died_39 (by decide) ?_
      refine lv_icmp_ne (tgt := 61) hx hb dX12_died_40 (by decide) (fun c_11 => ?_) (fun c_11 => ?_)
      · have hf := pbr_f c_11 hf
        refine lv_aload_n hx hb dX12_died_61 rfl (lv_at hl 1 rfl) ?_
        refine va_get (D := D) (ci := 12) (v := .ref q_ends) (C := RX12) (T := TX12) (N := 29) hx hb hts hn_X12_died_X12 hown hK hP 0 rfl rfl 16 (by decide) (hts _ hw_X12_died_f41) (fun _ h9 => h9) rfl dX12_died_62 ?_
        refine lv_iload_n hx hb dX12_died_65 rfl (lv_at hl 2 rfl) ?_
        obtain ⟨g_12, hf⟩ := pgd_e hf
        refine va_iald hx hb hK hP 4 1 rfl rfl g_12 dX12_died_66 ?_
        obtain rfl := pe1 hf
        exact m_iret hx hb hr hlocks hP hS dX12_died_67
      have hf := pbr_t c_11 hf
      refine lv_aload_n hx hb dX12_died_43 rfl (lv_at hl 1 rfl) ?_
      refine va_get (D := D) (ci := 12) (v := .int s_firstYear) (C := RX12) (T := TX12) (N := 29) hx hb hts hn_X12_died_X12 hown hK hP 0 rfl rfl 12 (by decide) (hts _ hw_X12_died_f82) (fun _ h9 => h9) rfl dX12_died_44 ?_
      refine lv_iload_n hx hb dX12_died_47 rfl (lv_at hl 0 rfl) ?_
      refine lv_iadd hx hb dX12_died_48 ?_
      refine lv_aload_n hx hb dX12_died_49 rfl (lv_at hl 1 rfl) ?_
      refine va_get (D := D) (ci := 12) (v := .ref q_woods) (C := RX12) (T := TX12) (N := 29) hx hb hts hn_X12_died_X12 hown hK hP 0 rfl rfl 15 (by decide) (hts _ hw_X12_died_f38) (fun _ h9 => h9) rfl dX12_died_50 ?_
      refine lv_iload_n hx hb dX12_died_53 rfl (lv_at hl 2 rfl) ?_
      obtain ⟨g_13, hf⟩ := pgd_e hf
      refine va_iald hx hb hK hP 1 1 rfl rfl g_13 dX12_died_54 ?_
      refine lv_iadd hx hb dX12_died_55 ?_
      refine lv_iconst (v := (1 : Int32)) hx hb dX12_died_56 (by decide) ?_
      refine lv_isub hx hb dX12_died_57 ?_
      refine lv_goto (tgt := 67) hx hb dX12_died_58 (by decide) ?_
      obtain rfl := pe1 hf
      exact m_iret hx hb hr hlocks hP hS dX12_died_67
    have hf := pbr_t c_10 hf
    refine lv_iload_n hx hb dX12_died_34 rfl (lv_at hl 0 rfl) ?_
    refine lv_goto (tgt := 67) hx hb dX12_died_35 (by decide) ?_
    obtain rfl := pe1 hf
    exact m_iret hx hb hr hlocks hP hS dX12_died_67
  have hf := pbr_t c_6 hf
  refine lv_iconst (v := (-1 : Int32)) hx hb dX12_died_16 (by decide) ?_
  obtain rfl := pe1 hf
  exact m_iret hx hb hr hlocks hP hS dX12_died_17

/-! ===== OrphanWaveModel.alike()I ===== -/
abbrev rm_X12_alike : Room := { frames := 2, cells := 0, slots := 0, locals := 51 }
abbrev w_X12_alike (a0 : Nat) (q_woods : Nat) (q_wood : Nat) (q_ring : Nat) (q_ends : Nat) (q_text : Nat) (q_depths : Nat) (q_tune : Nat) (q_far : Nat) (q_books : Nat) (q_told : Nat) (q_years : Nat) (q_months : Nat) (q_sheets : Nat) (q_marsh : Nat) (q_oldest : Nat) (q_youngest : Nat) (q_knowns : Nat) (q_known : Nat) (q_weight : Nat) (q_chance : Nat) (q_digs : Nat) (q_draft : Nat) (q_isKept : Nat) (cA : Nat → ClassId) (s_trace : Int64) (s_typed : Int32) (s_earliest : Int32) (s_latest : Int32) (s_firstYear : Int32) (s_rings : Int32) (s_woods : Nat → Int32) (s_wood : Nat → Int32) (s_ring : Nat → Int32) (s_ends : Nat → Int32) : va_W := [(a0, .inr (12, [.long s_trace, .ref q_text, .int s_typed, .ref q_depths, .ref q_tune, .ref q_far, .ref q_books, .ref q_told, .int s_earliest, .int s_latest, .ref q_years, .ref q_months, .int s_firstYear, .int s_rings, .ref q_ring, .ref q_woods, .ref q_ends, .ref q_wood, .ref q_sheets, .ref q_marsh, .ref q_oldest, .ref q_youngest, .ref q_knowns, .ref q_known, .ref q_weight, .ref q_chance, .ref q_digs, .ref q_draft, .ref q_isKept])), (q_woods, .inl (cA 1, 4, .inl s_woods)), (q_wood, .inl (cA 1, 120, .inl s_wood)), (q_ring, .inl (cA 1, 60, .inl s_ring)), (q_ends, .inl (cA 1, 4, .inl s_ends))]
theorem hn_X12_alike_X12 : ∀ w ∈ u_ws RX12 TX12 29, w ∈ wsX12_alike := by decide +kernel
theorem hw_X12_alike_f82 : Cond.fieldLink RX12 82 "OrphanWaveModel" "firstYear" "I" ∈ wsX12_alike := by decide +kernel
theorem hw_X12_alike_f38 : Cond.fieldLink RX12 38 "OrphanWaveModel" "woods" "[I" ∈ wsX12_alike := by decide +kernel
theorem hw_X12_alike_f41 : Cond.fieldLink RX12 41 "OrphanWaveModel" "ends" "[I" ∈ wsX12_alike := by decide +kernel

def f_X12_alike_83 (r11 : (Int32) → (Int32) → (Int32) → (Int32) → Option ((Int32))) (s_firstYear : Int32) (s_rings : Int32) (s_woods : Nat → Int32) (s_wood : Nat → Int32) (s_ring : Nat → Int32) (s_ends : Nat → Int32) (x4 : Int32) (x6 : Int32) (z0 : Int32) : Option ((Int32)) :=
  pgd (pin x4 4) (
  plt ((s_ends x4.toNatClampNeg) : Int32) (fun x2_2 => (
  plt (x4 + (1 : Int32) : Int32) (fun x4_3 => (
  r11 x6 x2_2 z0 x4_3)))))

set_option maxRecDepth 100000 in
set_option maxHeartbeats 4000000 in
theorem k_X12_alike_83 {p : Program} {l : Launch} {e : Env} {s : State} {m : MethodId} {args : Array Value} {below : List Frame} {meth : Method} {c : Code} {A : Nat → Prop} {D : va_G} {cA : Nat → ClassId} (C0 : MX p s m args meth c cX12_alike 7 wsX12_alike RX12 (some .int) D cA) (hA : ∀ q, s.heap.size ≤ q → A q) {a0 : Nat} {q_woods : Nat} {q_wood : Nat} {q_ring : Nat} {q_ends : Nat} {q_text : Nat} {q_depths : Nat} {q_tune : Nat} {q_far : Nat} {q_books : Nat} {q_told : Nat} {q_years : Nat} {q_months : Nat} {q_sheets : Nat} {q_marsh : Nat} {q_oldest : Nat} {q_youngest : Nat} {q_knowns : Nat} {q_known : Nat} {q_weight : Nat} {q_chance : Nat} {q_digs : Nat} {q_draft : Nat} {q_isKept : Nat} {s_trace : Int64} {s_typed : Int32} {s_earliest : Int32} {s_latest : Int32} {s_firstYear : Int32} {s_rings : Int32} {s_woods : Nat → Int32} {s_wood : Nat → Int32} {s_ring : Nat → Int32} {s_ends : Nat → Int32} {o_r : Int32} {r11 : (Int32) → (Int32) → (Int32) → (Int32) → Option ((Int32))} (hr11 : ∀ (x1 : Int32) (x2 : Int32) (x3 : Int32) (x4 : Int32), r11 x1 x2 x3 x4 = some o_r → ∀ (H : Heap) (locs : List Loc), va_P D vwCl (w_X12_alike a0 q_woods q_wood q_ring q_ends q_text q_depths q_tune q_far q_books q_told q_years q_months q_sheets q_marsh q_oldest q_youngest q_knowns q_known q_weight q_chance q_digs q_draft q_isKept cA s_trace s_typed s_earliest s_latest s_firstYear s_rings s_woods s_wood s_ring s_ends) H → va_D A (w_X12_alike a0 q_woods q_wood q_ring q_ends q_text q_depths q_tune q_far q_books q_told q_years q_months q_sheets q_marsh q_oldest q_youngest q_knowns q_known q_weight q_chance q_digs q_draft q_isKept cA s_trace s_typed s_earliest s_latest s_firstYear s_rings s_woods s_wood s_ring s_ends) → va_S A s.heap H locs → ∀ ls : Array Slot, lv_has ls 7 [(0, .ref a0), (1, .int x1), (2, .int x2), (3, .int x3), (4, .int x4)] → W p l e rm_X12_alike s m args below meth c H locs 0 0 (MQ below (CQ D (some (.int o_r)) (w_X12_alike a0 q_woods q_wood q_ring q_ends q_text q_depths q_tune q_far q_books q_told q_years q_months q_sheets q_marsh q_oldest q_youngest q_knowns q_known q_weight q_chance q_digs q_draft q_isKept cA s_trace s_typed s_earliest s_latest s_firstYear s_rings s_woods s_wood s_ring s_ends) A) args s 0 0 A) (F0 m 11 ls [])) : ∀ (x4 : Int32) (x6 : Int32) (z0 : Int32), f_X12_alike_83 r11 s_firstYear s_rings s_woods s_wood s_ring s_ends x4 x6 z0 = some o_r → ∀ (H : Heap) (locs : List Loc), va_P D vwCl (w_X12_alike a0 q_woods q_wood q_ring q_ends q_text q_depths q_tune q_far q_books q_told q_years q_months q_sheets q_marsh q_oldest q_youngest q_knowns q_known q_weight q_chance q_digs q_draft q_isKept cA s_trace s_typed s_earliest s_latest s_firstYear s_rings s_woods s_wood s_ring s_ends) H → va_D A (w_X12_alike a0 q_woods q_wood q_ring q_ends q_text q_depths q_tune q_far q_books q_told q_years q_months q_sheets q_marsh q_oldest q_youngest q_knowns q_known q_weight q_chance q_digs q_draft q_isKept cA s_trace s_typed s_earliest s_latest s_firstYear s_rings s_woods s_wood s_ring s_ends) → va_S A s.heap H locs → ∀ ls : Array Slot, lv_has ls 7 [(0, .ref a0), (4, .int x4), (6, .int x6)] → W p l e rm_X12_alike s m args below meth c H locs 0 0 (MQ below (CQ D (some (.int o_r)) (w_X12_alike a0 q_woods q_wood q_ring q_ends q_text q_depths q_tune q_far q_books q_told q_years q_months q_sheets q_marsh q_oldest q_youngest q_knowns q_known q_weight q_chance q_digs q_draft q_isKept cA s_trace s_typed s_earliest s_latest s_firstYear s_rings s_woods s_wood s_ring s_ends) A) args s 0 0 A) (F0 m 83 ls [.int z0]) := by
  obtain ⟨hx, hb, hml, hown, hts, hr, hlocks, hX⟩ := C0
  have hK := hX.1
  have hN := hX.2
  intro x4 x6 z0 hf H locs hP hD hS ls hl
  unfold f_X12_alike_83 at hf
  refine lv_istore_n (lv' := [(3, .int z0), (0, .ref a0), (4, .int x4), (6, .int x6)]) hx hb dX12_alike_83 rfl hl (by decide) rfl (fun ls hl => ?_)
  refine lv_iload hx hb dX12_alike_84 (lv_at hl 3 rfl) ?_
  refine lv_istore_n (lv' := [(1, .int x6), (3, .int z0), (0, .ref a0), (4, .int x4), (6, .int x6)]) hx hb dX12_alike_86 rfl hl (by decide) rfl (fun ls hl => ?_)
  refine lv_aload_n hx hb dX12_alike_87 rfl (lv_at hl 2 rfl) ?_
  refine va_get (D := D) (ci := 12) (v := .ref q_ends) (C := RX12) (T := TX12) (N := 29) hx hb hts hn_X12_alike_X12 hown hK hP 0 rfl rfl 16 (by decide) (hts _ hw_X12_alike_f41) (fun _ h9 => h9) rfl dX12_alike_88 ?_
  refine lv_iload hx hb dX12_alike_91 (lv_at hl 3 rfl) ?_
  obtain ⟨g_1, hf⟩ := pgd_e hf
  refine va_iald hx hb hK hP 4 1 rfl rfl g_1 dX12_alike_93 ?_
  refine lv_topi (fun x2_2 ex2_2 => ?_)
  have hf := plt_e ex2_2 hf
  refine lv_istore_n (lv' := [(2, .int x2_2), (1, .int x6), (3, .int z0), (0, .ref a0), (4, .int x4), (6, .int x6)]) hx hb dX12_alike_94 rfl hl (by decide) rfl (fun ls hl => ?_)
  obtain ⟨x4_3, ex4_3⟩ : ∃ z : Int32, z = x4 + (1 : Int32) := ⟨_, rfl⟩
  have hf := plt_e ex4_3 hf
  refine lv_iinc (v := x4_3) (lv' := [(4, .int x4_3), (2, .int x2_2), (1, .int x6), (3, .int z0), (0, .ref a0), (6, .int x6)]) hx hb dX12_alike_95 hl (k := 4) rfl (by rw [ex4_3]; rfl) (by decide) rfl (fun ls hl => ?_)
  refine lv_goto (tgt := 11) hx hb dX12_alike_98 (by decide) ?_
  exact hr11 x6 x2_2 z0 x4_3 hf _ _ hP hD hS ls (lv_sub hl [4, 2, 1, 3, 0] rfl)

def f_X12_alike_82 (r11 : (Int32) → (Int32) → (Int32) → (Int32) → Option ((Int32))) (s_firstYear : Int32) (s_rings : Int32) (s_woods : Nat → Int32) (s_wood : Nat → Int32) (s_ring : Nat → Int32) (s_ends : Nat → Int32) (x4 : Int32) (x6 : Int32) : Option ((Int32)) :=
  f_X12_alike_83 r11 s_firstYear s_rings s_woods s_wood s_ring s_ends x4 x6 (0 : Int32)

set_option maxRecDepth 100000 in
set_option maxHeartbeats 4000000 in
theorem k_X12_alike_82 {p : Program} {l : Launch} {e : Env} {s : State} {m : MethodId} {args : Array Value} {below : List Frame} {meth : Method} {c : Code} {A : Nat → Prop} {D : va_G} {cA : Nat → ClassId} (C0 : MX p s m args meth c cX12_alike 7 wsX12_alike RX12 (some .int) D cA) (hA : ∀ q, s.heap.size ≤ q → A q) {a0 : Nat} {q_woods : Nat} {q_wood : Nat} {q_ring : Nat} {q_ends : Nat} {q_text : Nat} {q_depths : Nat} {q_tune : Nat} {q_far : Nat} {q_books : Nat} {q_told : Nat} {q_years : Nat} {q_months : Nat} {q_sheets : Nat} {q_marsh : Nat} {q_oldest : Nat} {q_youngest : Nat} {q_knowns : Nat} {q_known : Nat} {q_weight : Nat} {q_chance : Nat} {q_digs : Nat} {q_draft : Nat} {q_isKept : Nat} {s_trace : Int64} {s_typed : Int32} {s_earliest : Int32} {s_latest : Int32} {s_firstYear : Int32} {s_rings : Int32} {s_woods : Nat → Int32} {s_wood : Nat → Int32} {s_ring : Nat → Int32} {s_ends : Nat → Int32} {o_r : Int32} {r11 : (Int32) → (Int32) → (Int32) → (Int32) → Option ((Int32))} (hr11 : ∀ (x1 : Int32) (x2 : Int32) (x3 : Int32) (x4 : Int32), r11 x1 x2 x3 x4 = some o_r → ∀ (H : Heap) (locs : List Loc), va_P D vwCl (w_X12_alike a0 q_woods q_wood q_ring q_ends q_text q_depths q_tune q_far q_books q_told q_years q_months q_sheets q_marsh q_oldest q_youngest q_knowns q_known q_weight q_chance q_digs q_draft q_isKept cA s_trace s_typed s_earliest s_latest s_firstYear s_rings s_woods s_wood s_ring s_ends) H → va_D A (w_X12_alike a0 q_woods q_wood q_ring q_ends q_text q_depths q_tune q_far q_books q_told q_years q_months q_sheets q_marsh q_oldest q_youngest q_knowns q_known q_weight q_chance q_digs q_draft q_isKept cA s_trace s_typed s_earliest s_latest s_firstYear s_rings s_woods s_wood s_ring s_ends) → va_S A s.heap H locs → ∀ ls : Array Slot, lv_has ls 7 [(0, .ref a0), (1, .int x1), (2, .int x2), (3, .int x3), (4, .int x4)] → W p l e rm_X12_alike s m args below meth c H locs 0 0 (MQ below (CQ D (some (.int o_r)) (w_X12_alike a0 q_woods q_wood q_ring q_ends q_text q_depths q_tune q_far q_books q_told q_years q_months q_sheets q_marsh q_oldest q_youngest q_knowns q_known q_weight q_chance q_digs q_draft q_isKept cA s_trace s_typed s_earliest s_latest s_firstYear s_rings s_woods s_wood s_ring s_ends) A) args s 0 0 A) (F0 m 11 ls [])) : ∀ (x4 : Int32) (x6 : Int32), f_X12_alike_82 r11 s_firstYear s_rings s_woods s_wood s_ring s_ends x4 x6 = some o_r → ∀ (H : Heap) (locs : List Loc), va_P D vwCl (w_X12_alike a0 q_woods q_wood q_ring q_ends q_text q_depths q_tune q_far q_books q_told q_years q_months q_sheets q_marsh q_oldest q_youngest q_knowns q_known q_weight q_chance q_digs q_draft q_isKept cA s_trace s_typed s_earliest s_latest s_firstYear s_rings s_woods s_wood s_ring s_ends) H → va_D A (w_X12_alike a0 q_woods q_wood q_ring q_ends q_text q_depths q_tune q_far q_books q_told q_years q_months q_sheets q_marsh q_oldest q_youngest q_knowns q_known q_weight q_chance q_digs q_draft q_isKept cA s_trace s_typed s_earliest s_latest s_firstYear s_rings s_woods s_wood s_ring s_ends) → va_S A s.heap H locs → ∀ ls : Array Slot, lv_has ls 7 [(0, .ref a0), (4, .int x4), (6, .int x6)] → W p l e rm_X12_alike s m args below meth c H locs 0 0 (MQ below (CQ D (some (.int o_r)) (w_X12_alike a0 q_woods q_wood q_ring q_ends q_text q_depths q_tune q_far q_books q_told q_years q_months q_sheets q_marsh q_oldest q_youngest q_knowns q_known q_weight q_chance q_digs q_draft q_isKept cA s_trace s_typed s_earliest s_latest s_firstYear s_rings s_woods s_wood s_ring s_ends) A) args s 0 0 A) (F0 m 82 ls []) := by
  obtain ⟨hx, hb, hml, hown, hts, hr, hlocks, hX⟩ := C0
  have hK := hX.1
  have hN := hX.2
  intro x4 x6 hf H locs hP hD hS ls hl
  unfold f_X12_alike_82 at hf
  refine lv_iconst (v := (0 : Int32)) hx hb dX12_alike_82 (by decide) ?_
  exact k_X12_alike_83 ⟨hx, hb, hml, hown, hts, hr, hlocks, hX⟩ hA hr11 x4 x6 (0 : Int32) hf _ _ hP hD hS ls (lv_sub hl [0, 1, 2] rfl)

def f_X12_alike_78 (r11 : (Int32) → (Int32) → (Int32) → (Int32) → Option ((Int32))) (s_firstYear : Int32) (s_rings : Int32) (s_woods : Nat → Int32) (s_wood : Nat → Int32) (s_ring : Nat → Int32) (s_ends : Nat → Int32) (x4 : Int32) (x6 : Int32) : Option ((Int32)) :=
  f_X12_alike_83 r11 s_firstYear s_rings s_woods s_wood s_ring s_ends x4 x6 (1 : Int32)

set_option maxRecDepth 100000 in
set_option maxHeartbeats 4000000 in
theorem k_X12_alike_78 {p : Program} {l : Launch} {e : Env} {s : State} {m : MethodId} {args : Array Value} {below : List Frame} {meth : Method} {c : Code} {A : Nat → Prop} {D : va_G} {cA : Nat → ClassId} (C0 : MX p s m args meth c cX12_alike 7 wsX12_alike RX12 (some .int) D cA) (hA : ∀ q, s.heap.size ≤ q → A q) {a0 : Nat} {q_woods : Nat} {q_wood : Nat} {q_ring : Nat} {q_ends : Nat} {q_text : Nat} {q_depths : Nat} {q_tune : Nat} {q_far : Nat} {q_books : Nat} {q_told : Nat} {q_years : Nat} {q_months : Nat} {q_sheets : Nat} {q_marsh : Nat} {q_oldest : Nat} {q_youngest : Nat} {q_knowns : Nat} {q_known : Nat} {q_weight : Nat} {q_chance : Nat} {q_digs : Nat} {q_draft : Nat} {q_isKept : Nat} {s_trace : Int64} {s_typed : Int32} {s_earliest : Int32} {s_latest : Int32} {s_firstYear : Int32} {s_rings : Int32} {s_woods : Nat → Int32} {s_wood : Nat → Int32} {s_ring : Nat → Int32} {s_ends : Nat → Int32} {o_r : Int32} {r11 : (Int32) → (Int32) → (Int32) → (Int32) → Option ((Int32))} (hr11 : ∀ (x1 : Int32) (x2 : Int32) (x3 : Int32) (x4 : Int32), r11 x1 x2 x3 x4 = some o_r → ∀ (H : Heap) (locs : List Loc), va_P D vwCl (w_X12_alike a0 q_woods q_wood q_ring q_ends q_text q_depths q_tune q_far q_books q_told q_years q_months q_sheets q_marsh q_oldest q_youngest q_knowns q_known q_weight q_chance q_digs q_draft q_isKept cA s_trace s_typed s_earliest s_latest s_firstYear s_rings s_woods s_wood s_ring s_ends) H → va_D A (w_X12_alike a0 q_woods q_wood q_ring q_ends q_text q_depths q_tune q_far q_books q_told q_years q_months q_sheets q_marsh q_oldest q_youngest q_knowns q_known q_weight q_chance q_digs q_draft q_isKept cA s_trace s_typed s_earliest s_latest s_firstYear s_rings s_woods s_wood s_ring s_ends) → va_S A s.heap H locs → ∀ ls : Array Slot, lv_has ls 7 [(0, .ref a0), (1, .int x1), (2, .int x2), (3, .int x3), (4, .int x4)] → W p l e rm_X12_alike s m args below meth c H locs 0 0 (MQ below (CQ D (some (.int o_r)) (w_X12_alike a0 q_woods q_wood q_ring q_ends q_text q_depths q_tune q_far q_books q_told q_years q_months q_sheets q_marsh q_oldest q_youngest q_knowns q_known q_weight q_chance q_digs q_draft q_isKept cA s_trace s_typed s_earliest s_latest s_firstYear s_rings s_woods s_wood s_ring s_ends) A) args s 0 0 A) (F0 m 11 ls [])) : ∀ (x4 : Int32) (x6 : Int32), f_X12_alike_78 r11 s_firstYear s_rings s_woods s_wood s_ring s_ends x4 x6 = some o_r → ∀ (H : Heap) (locs : List Loc), va_P D vwCl (w_X12_alike a0 q_woods q_wood q_ring q_ends q_text q_depths q_tune q_far q_books q_told q_years q_months q_sheets q_marsh q_oldest q_youngest q_knowns q_known q_weight q_chance q_digs q_draft q_isKept cA s_trace s_typed s_earliest s_latest s_firstYear s_rings s_woods s_wood s_ring s_ends) H → va_D A (w_X12_alike a0 q_woods q_wood q_ring q_ends q_text q_depths q_tune q_far q_books q_told q_years q_months q_sheets q_marsh q_oldest q_youngest q_knowns q_known q_weight q_chance q_digs q_draft q_isKept cA s_trace s_typed s_earliest s_latest s_firstYear s_rings s_woods s_wood s_ring s_ends) → va_S A s.heap H locs → ∀ ls : Array Slot, lv_has ls 7 [(0, .ref a0), (4, .int x4), (6, .int x6)] → W p l e rm_X12_alike s m args below meth c H locs 0 0 (MQ below (CQ D (some (.int o_r)) (w_X12_alike a0 q_woods q_wood q_ring q_ends q_text q_depths q_tune q_far q_books q_told q_years q_months q_sheets q_marsh q_oldest q_youngest q_knowns q_known q_weight q_chance q_digs q_draft q_isKept cA s_trace s_typed s_earliest s_latest s_firstYear s_rings s_woods s_wood s_ring s_ends) A) args s 0 0 A) (F0 m 78 ls []) := by
  obtain ⟨hx, hb, hml, hown, hts, hr, hlocks, hX⟩ := C0
  have hK := hX.1
  have hN := hX.2
  intro x4 x6 hf H locs hP hD hS ls hl
  unfold f_X12_alike_78 at hf
  refine lv_iconst (v := (1 : Int32)) hx hb dX12_alike_78 (by decide) ?_
  refine lv_goto (tgt := 83) hx hb dX12_alike_79 (by decide) ?_
  exact k_X12_alike_83 ⟨hx, hb, hml, hown, hts, hr, hlocks, hX⟩ hA hr11 x4 x6 (1 : Int32) hf _ _ hP hD hS ls (lv_sub hl [0, 1, 2] rfl)

def f_X12_alike_11 (s_firstYear : Int32) (s_rings : Int32) (s_woods : Nat → Int32) (s_wood : Nat → Int32) (s_ring : Nat → Int32) (s_ends : Nat → Int32) : Nat → (Int32) → (Int32) → (Int32) → (Int32) → Option ((Int32))
  | 0, _, _, _, _ => none
  | k + 1, x1, x2, x3, x4 =>
    pbr ((4 : Int32) ≤ x4)
      (pbr (x3 = 0)
        (some ((-9 : Int32)))
        (some (x1)))
      (pcl (f_X12_laidOf x4 s_rings s_woods s_wood s_ring) (fun r_3 => (
      pbr (r_3 = (-9 : Int32))
        (plt (x4 + (1 : Int32) : Int32) (fun x4_6 => (
        (f_X12_alike_11 s_firstYear s_rings s_woods s_wood s_ring s_ends k) x1 x2 x3 x4_6)))
        (pgd (pin x4 4) (
        plt ((((s_firstYear + r_3) + (s_woods x4.toNatClampNeg)) - (1 : Int32)) : Int32) (fun x6_8 => (
        pbr (x3 = 0)
          (f_X12_alike_82 (f_X12_alike_11 s_firstYear s_rings s_woods s_wood s_ring s_ends k) s_firstYear s_rings s_woods s_wood s_ring s_ends x4 x6_8)
          (pbr (x1 = (-9 : Int32))
            (f_X12_alike_78 (f_X12_alike_11 s_firstYear s_rings s_woods s_wood s_ring s_ends k) s_firstYear s_rings s_woods s_wood s_ring s_ends x4 x6_8)
            (pbr (x1 = x6_8)
              (pbr (x2 = (s_ends x4.toNatClampNeg))
                (f_X12_alike_78 (f_X12_alike_11 s_firstYear s_rings s_woods s_wood s_ring s_ends k) s_firstYear s_rings s_woods s_wood s_ring s_ends x4 x6_8)
                (f_X12_alike_82 (f_X12_alike_11 s_firstYear s_rings s_woods s_wood s_ring s_ends k) s_firstYear s_rings s_woods s_wood s_ring s_ends x4 x6_8))
              (f_X12_alike_82 (f_X12_alike_11 s_firstYear s_rings s_woods s_wood s_ring s_ends k) s_firstYear s_rings s_woods s_wood s_ring s_ends x4 x6_8))))))))))

set_option maxRecDepth 100000 in
set_option maxHeartbeats 4000000 in
theorem k_X12_alike_11 {p : Program} {l : Launch} {e : Env} {s : State} {m : MethodId} {args : Array Value} {below : List Frame} {meth : Method} {c : Code} {A : Nat → Prop} {D : va_G} {cA : Nat → ClassId} (C0 : MX p s m args meth c cX12_alike 7 wsX12_alike RX12 (some .int) D cA) (hA : ∀ q, s.heap.size ≤ q → A q) {a0 : Nat} {q_woods : Nat} {q_wood : Nat} {q_ring : Nat} {q_ends : Nat} {q_text : Nat} {q_depths : Nat} {q_tune : Nat} {q_far : Nat} {q_books : Nat} {q_told : Nat} {q_years : Nat} {q_months : Nat} {q_sheets : Nat} {q_marsh : Nat} {q_oldest : Nat} {q_youngest : Nat} {q_knowns : Nat} {q_known : Nat} {q_weight : Nat} {q_chance : Nat} {q_digs : Nat} {q_draft : Nat} {q_isKept : Nat} {s_trace : Int64} {s_typed : Int32} {s_earliest : Int32} {s_latest : Int32} {s_firstYear : Int32} {s_rings : Int32} {s_woods : Nat → Int32} {s_wood : Nat → Int32} {s_ring : Nat → Int32} {s_ends : Nat → Int32} {o_r : Int32} : ∀ (k : Nat) (x1 : Int32) (x2 : Int32) (x3 : Int32) (x4 : Int32), f_X12_alike_11 s_firstYear s_rings s_woods s_wood s_ring s_ends k x1 x2 x3 x4 = some o_r → ∀ (H : Heap) (locs : List Loc), va_P D vwCl (w_X12_alike a0 q_woods q_wood q_ring q_ends q_text q_depths q_tune q_far q_books q_told q_years q_months q_sheets q_marsh q_oldest q_youngest q_knowns q_known q_weight q_chance q_digs q_draft q_isKept cA s_trace s_typed s_earliest s_latest s_firstYear s_rings s_woods s_wood s_ring s_ends) H → va_D A (w_X12_alike a0 q_woods q_wood q_ring q_ends q_text q_depths q_tune q_far q_books q_told q_years q_months q_sheets q_marsh q_oldest q_youngest q_knowns q_known q_weight q_chance q_digs q_draft q_isKept cA s_trace s_typed s_earliest s_latest s_firstYear s_rings s_woods s_wood s_ring s_ends) → va_S A s.heap H locs → ∀ ls : Array Slot, lv_has ls 7 [(0, .ref a0), (1, .int x1), (2, .int x2), (3, .int x3), (4, .int x4)] → W p l e rm_X12_alike s m args below meth c H locs 0 0 (MQ below (CQ D (some (.int o_r)) (w_X12_alike a0 q_woods q_wood q_ring q_ends q_text q_depths q_tune q_far q_books q_told q_years q_months q_sheets q_marsh q_oldest q_youngest q_knowns q_known q_weight q_chance q_digs q_draft q_isKept cA s_trace s_typed s_earliest s_latest s_firstYear s_rings s_woods s_wood s_ring s_ends) A) args s 0 0 A) (F0 m 11 ls []) := by
  obtain ⟨hx, hb, hml, hown, hts, hr, hlocks, hX⟩ := C0
  have hK := hX.1
  have hN := hX.2
  intro k
  induction k with
  | zero =>
    intro x1 x2 x3 x4 hf
    cases hf
  | succ k ih =>
    intro x1 x2 x3 x4 hf H locs hP hD hS ls hl
    rw [f_X12_alike_11] at hf
    refine lv_iload hx hb dX12_alike_11 (lv_at hl 4 rfl) ?_
    refine lv_iconst (v := (4 : Int32)) hx hb dX12_alike_13 (by decide) ?_
    refine lv_icmp_ge (tgt := 101) hx hb dX12_alike_14 (by decide) (fun c_1 => ?_) (fun c_1 => ?_)
    · have hf := pbr_t c_1 hf
      refine lv_iload_n hx hb dX12_alike_101 rfl (lv_at hl 3 rfl) ?_
      refine lv_if_eq (tgt := 109) hx hb dX12_alike_102 (by decide) (fun c_2 => ?_) (fun c_2 => ?_)
      · have hf := pbr_t c_2 hf
        refine lv_bipush (v := (-9 : Int32)) hx hb dX12_alike_109 (by decide) ?_
        obtain rfl := pe1 hf
        exact m_iret hx hb hr hlocks hP hS dX12_alike_111
      have hf := pbr_f c_2 hf
      refine lv_iload_n hx hb dX12_alike_105 rfl (lv_at hl 1 rfl) ?_
      refine lv_goto (tgt := 111) hx hb dX12_alike_106 (by decide) ?_
      obtain rfl := pe1 hf
      exact m_iret hx hb hr hlocks hP hS dX12_alike_111
    have hf := pbr_f c_1 hf
    refine lv_aload_n hx hb dX12_alike_17 rfl (lv_at hl 0 rfl) ?_
    refine lv_iload hx hb dX12_alike_18 (lv_at hl 4 rfl) ?_
    obtain ⟨r_3, hc_4, hf⟩ := pcl_e hf
    refine m_callV2 (As := [.int x4]) (rest := []) ⟨hx, hb, hml, hown, hts⟩ hX (ct_X12_laidOf l D cA x4 a0 q_woods q_wood q_ring q_text q_depths q_tune q_far q_books q_told q_years q_months q_ends q_sheets q_marsh q_oldest q_youngest q_knowns q_known q_weight q_chance q_digs q_draft q_isKept s_trace s_typed s_earliest s_latest s_firstYear s_rings s_woods s_wood s_ring r_3 hc_4) (cwV 1 hts gX12_alike_X12_laidOf rfl rfl rfl (by decide +kernel) ⟨Nat.le_of_ble_eq_true rfl, Nat.le_of_ble_eq_true rfl⟩) hP hD hS hA [0, 1, 2, 3] [4] 5 (by decide) rfl rfl (WS' := (w_X12_alike a0 q_woods q_wood q_ring q_ends q_text q_depths q_tune q_far q_books q_told q_years q_months q_sheets q_marsh q_oldest q_youngest q_knowns q_known q_weight q_chance q_digs q_draft q_isKept cA s_trace s_typed s_earliest s_latest s_firstYear s_rings s_woods s_wood s_ring s_ends)) (WR := [(q_ends, .inl (cA 1, 4, .inl s_ends))]) rfl rfl rfl rfl (by decide) (by decide) 0 12 rfl rfl rfl hl.1 rfl (st' := [.int r_3]) rfl (Nat.le_of_ble_eq_true rfl) ⟨Nat.zero_le _, Nat.zero_le _⟩ dX12_alike_20 (fun H locs hP hD hS => ?_)
    refine lv_istore (lv' := [(5, .int r_3), (0, .ref a0), (1, .int x1), (2, .int x2), (3, .int x3), (4, .int x4)]) hx hb dX12_alike_23 hl (by decide) rfl (fun ls hl => ?_)
    refine lv_iload hx hb dX12_alike_25 (lv_at hl 0 rfl) ?_
    refine lv_bipush (v := (-9 : Int32)) hx hb dX12_alike_27 (by decide) ?_
    refine lv_icmp_eq (tgt := 95) hx hb dX12_alike_29 (by decide) (fun c_5 => ?_) (fun c_5 => ?_)
    · have hf := pbr_t c_5 hf
      obtain ⟨x4_6, ex4_6⟩ : ∃ z : Int32, z = x4 + (1 : Int32) := ⟨_, rfl⟩
      have hf := plt_e ex4_6 hf
      refine lv_iinc (v := x4_6) (lv' := [(4, .int x4_6), (5, .int r_3), (0, .ref a0), (1, .int x1), (2, .int x2), (3, .int x3)]) hx hb dX12_alike_95 hl (k := 5) rfl (by rw [ex4_6]; rfl) (by decide) rfl (fun ls hl => ?_)
      refine lv_goto (tgt := 11) hx hb dX12_alike_98 (by decide) ?_
      exact ih x1 x2 x3 x4_6 hf _ _ hP hD hS ls (lv_sub hl [2, 3, 4, 5, 0] rfl)
    have hf := pbr_f c_5 hf
    refine lv_aload_n hx hb dX12_alike_32 rfl (lv_at hl 1 rfl) ?_
    refine va_get (D := D) (ci := 12) (v := .int s_firstYear) (C := RX12) (T := TX12) (N := 29) hx hb hts hn_X12_alike_X12 hown hK hP 0 rfl rfl 12 (by decide) (hts _ hw_X12_alike_f82) (fun _ h9 => h9) rfl dX12_alike_33 ?_
    refine lv_iload hx hb dX12_alike_36 (lv_at hl 0 rfl) ?_
    refine lv_iadd hx hb dX12_alike_38 ?_
    refine lv_aload_n hx hb dX12_alike_39 rfl (lv_at hl 1 rfl) ?_
    refine va_get (D := D) (ci := 12) (v := .ref q_woods) (C := RX12) (T := TX12) (N := 29) hx hb hts hn_X12_alike_X12 hown hK hP 0 rfl rfl 15 (by decide) (hts _ hw_X12_alike_f38) (fun _ h9 => h9) rfl dX12_alike_40 ?_
    refine lv_iload hx hb dX12_alike_43 (lv_at hl 5 rfl) ?_
    obtain ⟨g_7, hf⟩ := pgd_e hf
    refine va_iald hx hb hK hP 1 1 rfl rfl g_7 dX12_alike_45 ?_
    refine lv_iadd hx hb dX12_alike_46 ?_
    refine lv_iconst (v := (1 : Int32)) hx hb dX12_alike_47 (by decide) ?_
    refine lv_isub hx hb dX12_alike_48 ?_
    refine lv_topi (fun x6_8 ex6_8 => ?_)
    have hf := plt_e ex6_8 hf
    refine lv_istore (lv' := [(6, .int x6_8), (5, .int r_3), (0, .ref a0), (1, .int x1), (2, .int x2), (3, .int x3), (4, .int x4)]) hx hb dX12_alike_49 hl (by decide) rfl (fun ls hl => ?_)
    refine lv_iload_n hx hb dX12_alike_51 rfl (lv_at hl 5 rfl) ?_
    refine lv_if_eq (tgt := 82) hx hb dX12_alike_52 (by decide) (fun c_9 => ?_) (fun c_9 => ?_)
    · have hf := pbr_t c_9 hf
      exact k_X12_alike_82 ⟨hx, hb, hml, hown, hts, hr, hlocks, hX⟩ hA ih x4 x6_8 hf _ _ hP hD hS ls (lv_sub hl [2, 6, 0] rfl)
    have hf := pbr_f c_9 hf
    refine lv_iload_n hx hb dX12_alike_55 rfl (lv_at hl 3 rfl) ?_
    refine lv_bipush (v := (-9 : Int32)) hx hb dX12_alike_56 (by decide) ?_
    refine lv_icmp_eq (tgt := 78) hx hb dX12_alike_58 (by decide) (fun c_10 => ?_) (fun c_10 => ?_)
    · have hf := pbr_t c_10 hf
      exact k_X12_alike_78 ⟨hx, hb, hml, hown, hts, hr, hlocks, hX⟩ hA ih x4 x6_8 hf _ _ hP hD hS ls (lv_sub hl [2, 6, 0] rfl)
    have hf := pbr_f c_10 hf
    refine lv_iload_n hx hb dX12_alike_61 rfl (lv_at hl 3 rfl) ?_
    refine lv_iload hx hb dX12_alike_62 (lv_at hl 0 rfl) ?_
    refine lv_icmp_ne (tgt := 82) hx hb dX12_alike_64 (by decide) (fun c_11 => ?_) (fun c_11 => ?_)
    · have hf := pbr_f c_11 hf
      exact k_X12_alike_82 ⟨hx, hb, hml, hown, hts, hr, hlocks, hX⟩ hA ih x4 x6_8 hf _ _ hP hD hS ls (lv_sub hl [2, 6, 0] rfl)
    have hf := pbr_t c_11 hf
    refine lv_iload_n hx hb dX12_alike_67 rfl (lv_at hl 4 rfl) ?_
    refine lv_aload_n hx hb dX12_alike_68 rfl (lv_at hl 2 rfl) ?_
    refine va_get (D := D) (ci := 12) (v := .ref q_ends) (C := RX12) (T := TX12) (N := 29) hx hb hts hn_X12_alike_X12 hown hK hP 0 rfl rfl 16 (by decide) (hts _ hw_X12_alike_f41) (fun _ h9 => h9) rfl dX12_alike_69 ?_
    refine lv_iload hx hb dX12_alike_72 (lv_at hl 6 rfl) ?_
    refine va_iald hx hb hK hP 4 1 rfl rfl g_7 dX12_alike_74 ?_
    refine lv_icmp_ne (tgt := 82) hx hb dX12_alike_75 (by decide) (fun c_12 => ?_) (fun c_12 => ?_)
    · have hf := pbr_f c_12 hf
      exact k_X12_alike_82 ⟨hx, hb, hml, hown, hts, hr, hlocks, hX⟩ hA ih x4 x6_8 hf _ _ hP hD hS ls (lv_sub hl [2, 6, 0] rfl)
    have hf := pbr_t c_12 hf
    exact k_X12_alike_78 ⟨hx, hb, hml, hown, hts, hr, hlocks, hX⟩ hA ih x4 x6_8 hf _ _ hP hD hS ls (lv_sub hl [2, 6, 0] rfl)

def f_X12_alike (s_firstYear : Int32) (s_rings : Int32) (s_woods : Nat → Int32) (s_wood : Nat → Int32) (s_ring : Nat → Int32) (s_ends : Nat → Int32) : Option ((Int32)) :=
  f_X12_alike_11 s_firstYear s_rings s_woods s_wood s_ring s_ends FU (-9 : Int32) (-9 : Int32) (1 : Int32) (0 : Int32)

set_option maxRecDepth 100000 in
set_option maxHeartbeats 4000000 in
theorem ct_X12_alike (l : Launch) (D : va_G) (cA : Nat → ClassId) (a0 : Nat) (q_woods : Nat) (q_wood : Nat) (q_ring : Nat) (q_ends : Nat) (q_text : Nat) (q_depths : Nat) (q_tune : Nat) (q_far : Nat) (q_books : Nat) (q_told : Nat) (q_years : Nat) (q_months : Nat) (q_sheets : Nat) (q_marsh : Nat) (q_oldest : Nat) (q_youngest : Nat) (q_knowns : Nat) (q_known : Nat) (q_weight : Nat) (q_chance : Nat) (q_digs : Nat) (q_draft : Nat) (q_isKept : Nat) (s_trace : Int64) (s_typed : Int32) (s_earliest : Int32) (s_latest : Int32) (s_firstYear : Int32) (s_rings : Int32) (s_woods : Nat → Int32) (s_wood : Nat → Int32) (s_ring : Nat → Int32) (s_ends : Nat → Int32) (o_r : Int32) (hf : f_X12_alike s_firstYear s_rings s_woods s_wood s_ring s_ends = some o_r) : CT l yX12_alike wsX12_alike rm_X12_alike D cA [.ref a0] (w_X12_alike a0 q_woods q_wood q_ring q_ends q_text q_depths q_tune q_far q_books q_told q_years q_months q_sheets q_marsh q_oldest q_youngest q_knowns q_known q_weight q_chance q_digs q_draft q_isKept cA s_trace s_typed s_earliest s_latest s_firstYear s_rings s_woods s_wood s_ring s_ends) (w_X12_alike a0 q_woods q_wood q_ring q_ends q_text q_depths q_tune q_far q_books q_told q_years q_months q_sheets q_marsh q_oldest q_youngest q_knowns q_known q_weight q_chance q_digs q_draft q_isKept cA s_trace s_typed s_earliest s_latest s_firstYear s_rings s_woods s_wood s_ring s_ends) (some (.int o_r)) := by
  refine CT.ofW (cc := cX12_alike) (maxL := 7) (ret := (some .int)) (by decide +kernel) rfl (Nat.le_of_ble_eq_true rfl) ?_
  intro p e s m below meth c A C0 hA hP hD ls hl
  have C0 : MX p s m [.ref a0].toArray meth c cX12_alike 7 wsX12_alike RX12 (some .int) D cA := C0
  have hl : lv_has ls 7 [(0, .ref a0)] := hl
  obtain ⟨hx, hb, hml, hown, hts, hr, hlocks, hX⟩ := id C0
  have hK := hX.1
  have hN := hX.2
  have hS : va_S A s.heap s.heap [] := va_S.rf
  unfold f_X12_alike at hf
  refine lv_bipush (v := (-9 : Int32)) hx hb dX12_alike_0 (by decide) ?_
  refine lv_istore_n (lv' := [(1, .int (-9 : Int32)), (0, .ref a0)]) hx hb dX12_alike_2 rfl hl (by decide) rfl (fun ls hl => ?_)
  refine lv_bipush (v := (-9 : Int32)) hx hb dX12_alike_3 (by decide) ?_
  refine lv_istore_n (lv' := [(2, .int (-9 : Int32)), (1, .int (-9 : Int32)), (0, .ref a0)]) hx hb dX12_alike_5 rfl hl (by decide) rfl (fun ls hl => ?_)
  refine lv_iconst (v := (1 : Int32)) hx hb dX12_alike_6 (by decide) ?_
  refine lv_istore_n (lv' := [(3, .int (1 : Int32)), (2, .int (-9 : Int32)), (1, .int (-9 : Int32)), (0, .ref a0)]) hx hb dX12_alike_7 rfl hl (by decide) rfl (fun ls hl => ?_)
  refine lv_iconst (v := (0 : Int32)) hx hb dX12_alike_8 (by decide) ?_
  refine lv_istore (lv' := [(4, .int (0 : Int32)), (3, .int (1 : Int32)), (2, .int (-9 : Int32)), (1, .int (-9 : Int32)), (0, .ref a0)]) hx hb dX12_alike_9 hl (by decide) rfl (fun ls hl => ?_)
  exact k_X12_alike_11 C0 hA FU (-9 : Int32) (-9 : Int32) (1 : Int32) (0 : Int32) hf _ _ hP hD hS ls (lv_sub hl [4, 3, 2, 1, 0] rfl)
