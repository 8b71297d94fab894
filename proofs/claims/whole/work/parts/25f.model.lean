/-! ===== OrphanWaveModel.beginsOf(I)I ===== -/
abbrev rm_X12_beginsOf : Room := { frames := 3, cells := 0, slots := 0, locals := 71 }
abbrev w_X12_beginsOf (a0 : Nat) (q_books : Nat) (q_told : Nat) (q_far : Nat) (q_tune : Nat) (q_depths : Nat) (q_text : Nat) (q_years : Nat) (q_months : Nat) (q_ring : Nat) (q_woods : Nat) (q_ends : Nat) (q_wood : Nat) (q_sheets : Nat) (q_marsh : Nat) (q_oldest : Nat) (q_youngest : Nat) (q_knowns : Nat) (q_known : Nat) (q_weight : Nat) (q_chance : Nat) (q_digs : Nat) (q_draft : Nat) (q_isKept : Nat) (cA : Nat → ClassId) (s_trace : Int64) (s_typed : Int32) (s_earliest : Int32) (s_latest : Int32) (s_firstYear : Int32) (s_rings : Int32) (s_books : Nat → Int32) (s_told : Nat → Int32) (s_far : Nat → Int32) (s_tune : Nat → Int32) (s_depths : Nat → Int32) : va_W := [(a0, .inr (12, [.long s_trace, .ref q_text, .int s_typed, .ref q_depths, .ref q_tune, .ref q_far, .ref q_books, .ref q_told, .int s_earliest, .int s_latest, .ref q_years, .ref q_months, .int s_firstYear, .int s_rings, .ref q_ring, .ref q_woods, .ref q_ends, .ref q_wood, .ref q_sheets, .ref q_marsh, .ref q_oldest, .ref q_youngest, .ref q_knowns, .ref q_known, .ref q_weight, .ref q_chance, .ref q_digs, .ref q_draft, .ref q_isKept])), (q_books, .inl (cA 1, 3, .inl s_books)), (q_told, .inl (cA 1, 90, .inl s_told)), (q_far, .inl (cA 1, 48, .inl s_far)), (q_tune, .inl (cA 1, 3, .inl s_tune)), (q_depths, .inl (cA 1, 96, .inl s_depths))]
theorem hn_X12_beginsOf_X12 : ∀ w ∈ u_ws RX12 TX12 29, w ∈ wsX12_beginsOf := by decide +kernel
theorem hw_X12_beginsOf_f126 : Cond.fieldLink RX12 126 "OrphanWaveModel" "latest" "I" ∈ wsX12_beginsOf := by decide +kernel
theorem hw_X12_beginsOf_f123 : Cond.fieldLink RX12 123 "OrphanWaveModel" "earliest" "I" ∈ wsX12_beginsOf := by decide +kernel

def f_X12_beginsOf (x1 : Int32) (s_earliest : Int32) (s_latest : Int32) (s_books : Nat → Int32) (s_told : Nat → Int32) (s_far : Nat → Int32) (s_tune : Nat → Int32) (s_depths : Nat → Int32) : Option ((Int32) × (Int32) × (Int32)) :=
  pcl (f_X12_findBegins x1 s_earliest s_latest s_books s_told s_far s_tune s_depths) (fun (earliest_1, latest_2) => (
  pbr (earliest_1 ≤ latest_2)
    (some (((latest_2 - earliest_1) + (1 : Int32)), earliest_1, latest_2))
    (some ((0 : Int32), earliest_1, latest_2))))

set_option maxRecDepth 100000 in
set_option maxHeartbeats 4000000 in
theorem ct_X12_beginsOf (l : Launch) (D : va_G) (cA : Nat → ClassId) (x1 : Int32) (a0 : Nat) (q_books : Nat) (q_told : Nat) (q_far : Nat) (q_tune : Nat) (q_depths : Nat) (q_text : Nat) (q_years : Nat) (q_months : Nat) (q_ring : Nat) (q_woods : Nat) (q_ends : Nat) (q_wood : Nat) (q_sheets : Nat) (q_marsh : Nat) (q_oldest : Nat) (q_youngest : Nat) (q_knowns : Nat) (q_known : Nat) (q_weight : Nat) (q_chance : Nat) (q_digs : Nat) (q_draft : Nat) (q_isKept : Nat) (s_trace : Int64) (s_typed : Int32) (s_earliest : Int32) (s_latest : Int32) (s_firstYear : Int32) (s_rings : Int32) (s_books : Nat → Int32) (s_told : Nat → Int32) (s_far : Nat → Int32) (s_tune : Nat → Int32) (s_depths : Nat → Int32) (o_r : Int32) (o_earliest : Int32) (o_latest : Int32) (hf : f_X12_beginsOf x1 s_earliest s_latest s_books s_told s_far s_tune s_depths = some (o_r, o_earliest, o_latest)) : CT l yX12_beginsOf wsX12_beginsOf rm_X12_beginsOf D cA [.ref a0, .int x1] (w_X12_beginsOf a0 q_books q_told q_far q_tune q_depths q_text q_years q_months q_ring q_woods q_ends q_wood q_sheets q_marsh q_oldest q_youngest q_knowns q_known q_weight q_chance q_digs q_draft q_isKept cA s_trace s_typed s_earliest s_latest s_firstYear s_rings s_books s_told s_far s_tune s_depths) (w_X12_beginsOf a0 q_books q_told q_far q_tune q_depths q_text q_years q_months q_ring q_woods q_ends q_wood q_sheets q_marsh q_oldest q_youngest q_knowns q_known q_weight q_chance q_digs q_draft q_isKept cA s_trace s_typed o_earliest o_latest s_firstYear s_rings s_books s_told s_far s_tune s_depths) (some (.int o_r)) := by
  refine CT.ofW (cc := cX12_beginsOf) (maxL := 2) (ret := (some .int)) (by decide +kernel) rfl (Nat.le_of_ble_eq_true rfl) ?_
  intro p e s m below meth c A C0 hA hP hD ls hl
  have C0 : MX p s m [.ref a0, .int x1].toArray meth c cX12_beginsOf 2 wsX12_beginsOf RX12 (some .int) D cA := C0
  have hl : lv_has ls 2 [(0, .ref a0), (1, .int x1)] := hl
  obtain ⟨hx, hb, hml, hown, hts, hr, hlocks, hX⟩ := id C0
  have hK := hX.1
  have hN := hX.2
  have hS : va_S A s.heap s.heap [] := va_S.rf
  unfold f_X12_beginsOf at hf
  refine lv_aload_n hx hb dX12_beginsOf_0 rfl (lv_at hl 0 rfl) ?_
  refine lv_iload_n hx hb dX12_beginsOf_1 rfl (lv_at hl 1 rfl) ?_
  obtain ⟨⟨earliest_1, latest_2⟩, hc_3, hf⟩ := pcl_e hf
  refine m_callV2 (As := [.int x1]) (rest := []) ⟨hx, hb, hml, hown, hts⟩ hX (ct_X12_findBegins l D cA x1 a0 q_books q_told q_far q_tune q_depths q_text q_years q_months q_ring q_woods q_ends q_wood q_sheets q_marsh q_oldest q_youngest q_knowns q_known q_weight q_chance q_digs q_draft q_isKept s_trace s_typed s_earliest s_latest s_firstYear s_rings s_books s_told s_far s_tune s_depths earliest_1 latest_2 hc_3) (cwV 1 hts gX12_beginsOf_X12_findBegins rfl rfl rfl (by decide +kernel) ⟨Nat.le_of_ble_eq_true rfl, Nat.le_of_ble_eq_true rfl⟩) hP hD hS hA [0, 1, 2, 3, 4, 5] [] 6 (by decide) rfl rfl (WS' := (w_X12_beginsOf a0 q_books q_told q_far q_tune q_depths q_text q_years q_months q_ring q_woods q_ends q_wood q_sheets q_marsh q_oldest q_youngest q_knowns q_known q_weight q_chance q_digs q_draft q_isKept cA s_trace s_typed earliest_1 latest_2 s_firstYear s_rings s_books s_told s_far s_tune s_depths)) (WR := []) rfl rfl rfl rfl (by decide) (by decide) 0 12 rfl rfl rfl hl.1 rfl (st' := []) rfl (Nat.le_of_ble_eq_true rfl) ⟨Nat.zero_le _, Nat.zero_le _⟩ dX12_beginsOf_2 (fun H locs hP hD hS => ?_)
  refine lv_aload_n hx hb dX12_beginsOf_5 rfl (lv_at hl 0 rfl) ?_
  refine va_get (D := D) (ci := 12) (v := .int latest_2) (C := RX12) (T := TX12) (N := 29) hx hb hts hn_X12_beginsOf_X12 hown hK hP 0 rfl rfl 9 (by decide) (hts _ hw_X12_beginsOf_f126) (fun _ h9 => h9) rfl dX12_beginsOf_6 ?_
  refine lv_aload_n hx hb dX12_beginsOf_9 rfl (lv_at hl 0 rfl) ?_
  refine va_get (D := D) (ci := 12) (v := .int earliest_1) (C := RX12) (T := TX12) (N := 29) hx hb hts hn_X12_beginsOf_X12 hown hK hP 0 rfl rfl 8 (by decide) (hts _ hw_X12_beginsOf_f123) (fun _ h9 => h9) rfl dX12_beginsOf_10 ?_
  refine lv_icmp_ge (tgt := 20) hx hb dX12_beginsOf_13 (by decide) (fun c_4 => ?_) (fun c_4 => ?_)
  · have hf := pbr_t c_4 hf
    refine lv_aload_n hx hb dX12_beginsOf_20 rfl (lv_at hl 0 rfl) ?_
    refine va_get (D := D) (ci := 12) (v := .int latest_2) (C := RX12) (T := TX12) (N := 29) hx hb hts hn_X12_beginsOf_X12 hown hK hP 0 rfl rfl 9 (by decide) (hts _ hw_X12_beginsOf_f126) (fun _ h9 => h9) rfl dX12_beginsOf_21 ?_
    refine lv_aload_n hx hb dX12_beginsOf_24 rfl (lv_at hl 0 rfl) ?_
    refine va_get (D := D) (ci := 12) (v := .int earliest_1) (C := RX12) (T := TX12) (N := 29) hx hb hts hn_X12_beginsOf_X12 hown hK hP 0 rfl rfl 8 (by decide) (hts _ hw_X12_beginsOf_f123) (fun _ h9 => h9) rfl dX12_beginsOf_25 ?_
    refine lv_isub hx hb dX12_beginsOf_28 ?_
    refine lv_iconst (v := (1 : Int32)) hx hb dX12_beginsOf_29 (by decide) ?_
    refine lv_iadd hx hb dX12_beginsOf_30 ?_
    obtain ⟨rfl, rfl, rfl⟩ := pe3 hf
    exact m_iret hx hb hr hlocks hP hS dX12_beginsOf_31
  have hf := pbr_f c_4 hf
  refine lv_iconst (v := (0 : Int32)) hx hb dX12_beginsOf_16 (by decide) ?_
  refine lv_goto (tgt := 31) hx hb dX12_beginsOf_17 (by decide) ?_
  obtain ⟨rfl, rfl, rfl⟩ := pe3 hf
  exact m_iret hx hb hr hlocks hP hS dX12_beginsOf_31

/-! ===== OrphanWaveModel.waysOf(I)I ===== -/
abbrev rm_X12_waysOf : Room := { frames := 4, cells := 0, slots := 0, locals := 92 }
abbrev w_X12_waysOf (a0 : Nat) (q_depths : Nat) (q_far : Nat) (q_tune : Nat) (q_books : Nat) (q_told : Nat) (q_text : Nat) (q_years : Nat) (q_months : Nat) (q_ring : Nat) (q_woods : Nat) (q_ends : Nat) (q_wood : Nat) (q_sheets : Nat) (q_marsh : Nat) (q_oldest : Nat) (q_youngest : Nat) (q_knowns : Nat) (q_known : Nat) (q_weight : Nat) (q_chance : Nat) (q_digs : Nat) (q_draft : Nat) (q_isKept : Nat) (cA : Nat → ClassId) (s_trace : Int64) (s_typed : Int32) (s_earliest : Int32) (s_latest : Int32) (s_firstYear : Int32) (s_rings : Int32) (s_depths : Nat → Int32) (s_far : Nat → Int32) (s_tune : Nat → Int32) (s_books : Nat → Int32) (s_told : Nat → Int32) : va_W := [(a0, .inr (12, [.long s_trace, .ref q_text, .int s_typed, .ref q_depths, .ref q_tune, .ref q_far, .ref q_books, .ref q_told, .int s_earliest, .int s_latest, .ref q_years, .ref q_months, .int s_firstYear, .int s_rings, .ref q_ring, .ref q_woods, .ref q_ends, .ref q_wood, .ref q_sheets, .ref q_marsh, .ref q_oldest, .ref q_youngest, .ref q_knowns, .ref q_known, .ref q_weight, .ref q_chance, .ref q_digs, .ref q_draft, .ref q_isKept])), (q_depths, .inl (cA 1, 96, .inl s_depths)), (q_far, .inl (cA 1, 48, .inl s_far)), (q_tune, .inl (cA 1, 3, .inl s_tune)), (q_books, .inl (cA 1, 3, .inl s_books)), (q_told, .inl (cA 1, 90, .inl s_told))]

def f_X12_waysOf_9 (s_depths : Nat → Int32) (s_tune : Nat → Int32) (s_books : Nat → Int32) (s_told : Nat → Int32) (x1 : Int32) : Nat → (Int32) → (Int32) → (Int32) → (Int32) → (Nat → Int32) → Option ((Int32) × (Int32) × (Int32) × (Nat → Int32))
  | 0, _, _, _, _, _ => none
  | k + 1, x2, x3, s_earliest, s_latest, s_far =>
    pbr ((100 : Int32) ≤ x3)
      (some (x2, s_earliest, s_latest, s_far))
      (pcl (f_X12_beginsOf x3 s_earliest s_latest s_books s_told s_far s_tune s_depths) (fun (r_2, earliest_3, latest_4) => (
      plt ((x2 + r_2) : Int32) (fun x2_6 => (
      plt (x3 + (1 : Int32) : Int32) (fun x3_7 => (
      (f_X12_waysOf_9 s_depths s_tune s_books s_told x1 k) x2_6 x3_7 earliest_3 latest_4 s_far)))))))

set_option maxRecDepth 100000 in
set_option maxHeartbeats 4000000 in
theorem k_X12_waysOf_9 {p : Program} {l : Launch} {e : Env} {s : State} {m : MethodId} {args : Array Value} {below : List Frame} {meth : Method} {c : Code} {A : Nat → Prop} {D : va_G} {cA : Nat → ClassId} (C0 : MX p s m args meth c cX12_waysOf 4 wsX12_waysOf RX12 (some .int) D cA) (hA : ∀ q, s.heap.size ≤ q → A q) {a0 : Nat} {q_depths : Nat} {q_far : Nat} {q_tune : Nat} {q_books : Nat} {q_told : Nat} {q_text : Nat} {q_years : Nat} {q_months : Nat} {q_ring : Nat} {q_woods : Nat} {q_ends : Nat} {q_wood : Nat} {q_sheets : Nat} {q_marsh : Nat} {q_oldest : Nat} {q_youngest : Nat} {q_knowns : Nat} {q_known : Nat} {q_weight : Nat} {q_chance : Nat} {q_digs : Nat} {q_draft : Nat} {q_isKept : Nat} {s_trace : Int64} {s_typed : Int32} {s_firstYear : Int32} {s_rings : Int32} {s_depths : Nat → Int32} {s_tune : Nat → Int32} {s_books : Nat → Int32} {s_told : Nat → Int32} {x1 : Int32} {o_r : Int32} {o_earliest : Int32} {o_latest : Int32} {o_far : Nat → Int32} : ∀ (k : Nat) (x2 : Int32) (x3 : Int32) (s_earliest : Int32) (s_latest : Int32) (s_far : Nat → Int32), f_X12_waysOf_9 s_depths s_tune s_books s_told x1 k x2 x3 s_earliest s_latest s_far = some (o_r, o_earliest, o_latest, o_far) → ∀ (H : Heap) (locs : List Loc), va_P D vwCl (w_X12_waysOf a0 q_depths q_far q_tune q_books q_told q_text q_years q_months q_ring q_woods q_ends q_wood q_sheets q_marsh q_oldest q_youngest q_knowns q_known q_weight q_chance q_digs q_draft q_isKept cA s_trace s_typed s_earliest s_latest s_firstYear s_rings s_depths s_far s_tune s_books s_told) H → va_D A (w_X12_waysOf a0 q_depths q_far q_tune q_books q_told q_text q_years q_months q_ring q_woods q_ends q_wood q_sheets q_marsh q_oldest q_youngest q_knowns q_known q_weight q_chance q_digs q_draft q_isKept cA s_trace s_typed s_earliest s_latest s_firstYear s_rings s_depths s_far s_tune s_books s_told) → va_S A s.heap H locs → ∀ ls : Array Slot, lv_has ls 4 [(0, .ref a0), (2, .int x2), (3, .int x3)] → W p l e rm_X12_waysOf s m args below meth c H locs 0 0 (MQ below (CQ D (some (.int o_r)) (w_X12_waysOf a0 q_depths q_far q_tune q_books q_told q_text q_years q_months q_ring q_woods q_ends q_wood q_sheets q_marsh q_oldest q_youngest q_knowns q_known q_weight q_chance q_digs q_draft q_isKept cA s_trace s_typed o_earliest o_latest s_firstYear s_rings s_depths o_far s_tune s_books s_told) A) args s 0 0 A) (F0 m 9 ls []) := by
  obtain ⟨hx, hb, hml, hown, hts, hr, hlocks, hX⟩ := C0
  have hK := hX.1
  have hN := hX.2
  intro k
  induction k with
  | zero =>
    intro x2 x3 s_earliest s_latest s_far hf
    cases hf
  | succ k ih =>
    intro x2 x3 s_earliest s_latest s_far hf H locs hP hD hS ls hl
    rw [f_X12_waysOf_9] at hf
    refine lv_iload_n hx hb dX12_waysOf_9 rfl (lv_at hl 2 rfl) ?_
    refine lv_bipush (v := (100 : Int32)) hx hb dX12_waysOf_10 (by decide) ?_
    refine lv_icmp_ge (tgt := 29) hx hb dX12_waysOf_12 (by decide) (fun c_1 => ?_) (fun c_1 => ?_)
    · have hf := pbr_t c_1 hf
      refine lv_iload_n hx hb dX12_waysOf_29 rfl (lv_at hl 1 rfl) ?_
      obtain ⟨rfl, rfl, rfl, rfl⟩ := pe4 hf
      exact m_iret hx hb hr hlocks hP hS dX12_waysOf_30
    have hf := pbr_f c_1 hf
    refine lv_iload_n hx hb dX12_waysOf_15 rfl (lv_at hl 1 rfl) ?_
    refine lv_aload_n hx hb dX12_waysOf_16 rfl (lv_at hl 0 rfl) ?_
    refine lv_iload_n hx hb dX12_waysOf_17 rfl (lv_at hl 2 rfl) ?_
    obtain ⟨⟨r_2, earliest_3, latest_4⟩, hc_5, hf⟩ := pcl_e hf
    refine m_callV2 (As := [.int x3]) (rest := [.int x2]) ⟨hx, hb, hml, hown, hts⟩ hX (ct_X12_beginsOf l D cA x3 a0 q_books q_told q_far q_tune q_depths q_text q_years q_months q_ring q_woods q_ends q_wood q_sheets q_marsh q_oldest q_youngest q_knowns q_known q_weight q_chance q_digs q_draft q_isKept s_trace s_typed s_earliest s_latest s_firstYear s_rings s_books s_told s_far s_tune s_depths r_2 earliest_3 latest_4 hc_5) (cwV 1 hts gX12_waysOf_X12_beginsOf rfl rfl rfl (by decide +kernel) ⟨Nat.le_of_ble_eq_true rfl, Nat.le_of_ble_eq_true rfl⟩) hP hD hS hA [0, 4, 5, 2, 3, 1] [] 6 (by decide) rfl rfl (WS' := (w_X12_waysOf a0 q_depths q_far q_tune q_books q_told q_text q_years q_months q_ring q_woods q_ends q_wood q_sheets q_marsh q_oldest q_youngest q_knowns q_known q_weight q_chance q_digs q_draft q_isKept cA s_trace s_typed earliest_3 latest_4 s_firstYear s_rings s_depths s_far s_tune s_books s_told)) (WR := []) rfl rfl rfl rfl (by decide) (by decide) 0 12 rfl rfl rfl hl.1 rfl (st' := [.int r_2, .int x2]) rfl (Nat.le_of_ble_eq_true rfl) ⟨Nat.zero_le _, Nat.zero_le _⟩ dX12_waysOf_18 (fun H locs hP hD hS => ?_)
    refine lv_iadd hx hb dX12_waysOf_21 ?_
    refine lv_topi (fun x2_6 ex2_6 => ?_)
    have hf := plt_e ex2_6 hf
    refine lv_istore_n (lv' := [(2, .int x2_6), (0, .ref a0), (3, .int x3)]) hx hb dX12_waysOf_22 rfl hl (by decide) rfl (fun ls hl => ?_)
    obtain ⟨x3_7, ex3_7⟩ : ∃ z : Int32, z = x3 + (1 : Int32) := ⟨_, rfl⟩
    have hf := plt_e ex3_7 hf
    refine lv_iinc (v := x3_7) (lv' := [(3, .int x3_7), (2, .int x2_6), (0, .ref a0)]) hx hb dX12_waysOf_23 hl (k := 2) rfl (by rw [ex3_7]; rfl) (by decide) rfl (fun ls hl => ?_)
    refine lv_goto (tgt := 9) hx hb dX12_waysOf_26 (by decide) ?_
    exact ih x2_6 x3_7 earliest_3 latest_4 s_far hf _ _ hP hD hS ls (lv_sub hl [2, 1, 0] rfl)

def f_X12_waysOf (x1 : Int32) (s_earliest : Int32) (s_latest : Int32) (s_depths : Nat → Int32) (s_far : Nat → Int32) (s_tune : Nat → Int32) (s_books : Nat → Int32) (s_told : Nat → Int32) : Option ((Int32) × (Int32) × (Int32) × (Nat → Int32)) :=
  pcl (f_X12_begin x1 s_depths s_far s_tune) (fun far_1 => (
  f_X12_waysOf_9 s_depths s_tune s_books s_told x1 FU (0 : Int32) (1 : Int32) s_earliest s_latest far_1))

set_option maxRecDepth 100000 in
set_option maxHeartbeats 4000000 in
theorem ct_X12_waysOf (l : Launch) (D : va_G) (cA : Nat → ClassId) (x1 : Int32) (a0 : Nat) (q_depths : Nat) (q_far : Nat) (q_tune : Nat) (q_books : Nat) (q_told : Nat) (q_text : Nat) (q_years : Nat) (q_months : Nat) (q_ring : Nat) (q_woods : Nat) (q_ends : Nat) (q_wood : Nat) (q_sheets : Nat) (q_marsh : Nat) (q_oldest : Nat) (q_youngest : Nat) (q_knowns : Nat) (q_known : Nat) (q_weight : Nat) (q_chance : Nat) (q_digs : Nat) (q_draft : Nat) (q_isKept : Nat) (s_trace : Int64) (s_typed : Int32) (s_earliest : Int32) (s_latest : Int32) (s_firstYear : Int32) (s_rings : Int32) (s_depths : Nat → Int32) (s_far : Nat → Int32) (s_tune : Nat → Int32) (s_books : Nat → Int32) (s_told : Nat → Int32) (o_r : Int32) (o_earliest : Int32) (o_latest : Int32) (o_far : Nat → Int32) (hf : f_X12_waysOf x1 s_earliest s_latest s_depths s_far s_tune s_books s_told = some (o_r, o_earliest, o_latest, o_far)) : CT l yX12_waysOf wsX12_waysOf rm_X12_waysOf D cA [.ref a0, .int x1] (w_X12_waysOf a0 q_depths q_far q_tune q_books q_told q_text q_years q_months q_ring q_woods q_ends q_wood q_sheets q_marsh q_oldest q_youngest q_knowns q_known q_weight q_chance q_digs q_draft q_isKept cA s_trace s_typed s_earliest s_latest s_firstYear s_rings s_depths s_far s_tune s_books s_told) (w_X12_waysOf a0 q_depths q_far q_tune q_books q_told q_text q_years q_months q_ring q_woods q_ends q_wood q_sheets q_marsh q_oldest q_youngest q_knowns q_known q_weight q_chance q_digs q_draft q_isKept cA s_trace s_typed o_earliest o_latest s_firstYear s_rings s_depths o_far s_tune s_books s_told) (some (.int o_r)) := by
  refine CT.ofW (cc := cX12_waysOf) (maxL := 4) (ret := (some .int)) (by decide +kernel) rfl (Nat.le_of_ble_eq_true rfl) ?_
  intro p e s m below meth c A C0 hA hP hD ls hl
  have C0 : MX p s m [.ref a0, .int x1].toArray meth c cX12_waysOf 4 wsX12_waysOf RX12 (some .int) D cA := C0
  have hl : lv_has ls 4 [(0, .ref a0), (1, .int x1)] := hl
  obtain ⟨hx, hb, hml, hown, hts, hr, hlocks, hX⟩ := id C0
  have hK := hX.1
  have hN := hX.2
  have hS : va_S A s.heap s.heap [] := va_S.rf
  unfold f_X12_waysOf at hf
  refine lv_aload_n hx hb dX12_waysOf_0 rfl (lv_at hl 0 rfl) ?_
  refine lv_iload_n hx hb dX12_waysOf_1 rfl (lv_at hl 1 rfl) ?_
  obtain ⟨far_1, hc_2, hf⟩ := pcl_e hf
  refine m_callV2 (As := [.int x1]) (rest := []) ⟨hx, hb, hml, hown, hts⟩ hX (ct_X12_begin l D cA x1 a0 q_depths q_far q_tune q_text q_books q_told q_years q_months q_ring q_woods q_ends q_wood q_sheets q_marsh q_oldest q_youngest q_knowns q_known q_weight q_chance q_digs q_draft q_isKept s_trace s_typed s_earliest s_latest s_firstYear s_rings s_depths s_far s_tune far_1 hc_2) (cwV 1 hts gX12_waysOf_X12_begin rfl rfl rfl (by decide +kernel) ⟨Nat.le_of_ble_eq_true rfl, Nat.le_of_ble_eq_true rfl⟩) hP hD hS hA [0, 1, 2, 3] [4, 5] 6 (by decide) rfl rfl (WS' := (w_X12_waysOf a0 q_depths q_far q_tune q_books q_told q_text q_years q_months q_ring q_woods q_ends q_wood q_sheets q_marsh q_oldest q_youngest q_knowns q_known q_weight q_chance q_digs q_draft q_isKept cA s_trace s_typed s_earliest s_latest s_firstYear s_rings s_depths far_1 s_tune s_books s_told)) (WR := [(q_books, .inl (cA 1, 3, .inl s_books)), (q_told, .inl (cA 1, 90, .inl s_told))]) rfl rfl rfl rfl (by decide) (by decide) 0 12 rfl rfl rfl hl.1 rfl (st' := []) rfl (Nat.le_of_ble_eq_true rfl) ⟨Nat.zero_le _, Nat.zero_le _⟩ dX12_waysOf_2 (fun H locs hP hD hS => ?_)
  refine lv_iconst (v := (0 : Int32)) hx hb dX12_waysOf_5 (by decide) ?_
  refine lv_istore_n (lv' := [(2, .int (0 : Int32)), (0, .ref a0), (1, .int x1)]) hx hb dX12_waysOf_6 rfl hl (by decide) rfl (fun ls hl => ?_)
  refine lv_iconst (v := (1 : Int32)) hx hb dX12_waysOf_7 (by decide) ?_
  refine lv_istore_n (lv' := [(3, .int (1 : Int32)), (2, .int (0 : Int32)), (0, .ref a0), (1, .int x1)]) hx hb dX12_waysOf_8 rfl hl (by decide) rfl (fun ls hl => ?_)
  exact k_X12_waysOf_9 C0 hA FU (0 : Int32) (1 : Int32) s_earliest s_latest far_1 hf _ _ hP hD hS ls (lv_sub hl [2, 1, 0] rfl)

/-! ===== OrphanWaveModel.begins(II)I ===== -/
abbrev rm_X12_begins : Room := { frames := 4, cells := 0, slots := 0, locals := 92 }
abbrev w_X12_begins (a0 : Nat) (q_depths : Nat) (q_far : Nat) (q_tune : Nat) (q_books : Nat) (q_told : Nat) (q_text : Nat) (q_years : Nat) (q_months : Nat) (q_ring : Nat) (q_woods : Nat) (q_ends : Nat) (q_wood : Nat) (q_sheets : Nat) (q_marsh : Nat) (q_oldest : Nat) (q_youngest : Nat) (q_knowns : Nat) (q_known : Nat) (q_weight : Nat) (q_chance : Nat) (q_digs : Nat) (q_draft : Nat) (q_isKept : Nat) (cA : Nat → ClassId) (s_trace : Int64) (s_typed : Int32) (s_earliest : Int32) (s_latest : Int32) (s_firstYear : Int32) (s_rings : Int32) (s_depths : Nat → Int32) (s_far : Nat → Int32) (s_tune : Nat → Int32) (s_books : Nat → Int32) (s_told : Nat → Int32) : va_W := [(a0, .inr (12, [.long s_trace, .ref q_text, .int s_typed, .ref q_depths, .ref q_tune, .ref q_far, .ref q_books, .ref q_told, .int s_earliest, .int s_latest, .ref q_years, .ref q_months, .int s_firstYear, .int s_rings, .ref q_ring, .ref q_woods, .ref q_ends, .ref q_wood, .ref q_sheets, .ref q_marsh, .ref q_oldest, .ref q_youngest, .ref q_knowns, .ref q_known, .ref q_weight, .ref q_chance, .ref q_digs, .ref q_draft, .ref q_isKept])), (q_depths, .inl (cA 1, 96, .inl s_depths)), (q_far, .inl (cA 1, 48, .inl s_far)), (q_tune, .inl (cA 1, 3, .inl s_tune)), (q_books, .inl (cA 1, 3, .inl s_books)), (q_told, .inl (cA 1, 90, .inl s_told))]
theorem hn_X12_begins_X12 : ∀ w ∈ u_ws RX12 TX12 29, w ∈ wsX12_begins := by decide +kernel
theorem hw_X12_begins_f23 : Cond.fieldLink RX12 23 "OrphanWaveModel" "books" "[I" ∈ wsX12_begins := by decide +kernel

def f_X12_begins (x1 : Int32) (x2 : Int32) (s_earliest : Int32) (s_latest : Int32) (s_depths : Nat → Int32) (s_far : Nat → Int32) (s_tune : Nat → Int32) (s_books : Nat → Int32) (s_told : Nat → Int32) : Option ((Int32) × (Int32) × (Int32) × (Nat → Int32)) :=
  pcl (f_X12_isSea x1 s_depths) (fun r_1 => (
  pbr (r_1 = 0)
    (some ((-1 : Int32), s_earliest, s_latest, s_far))
    (pcl (f_X12_in x2 (1 : Int32) (99 : Int32)) (fun r_4 => (
    pbr (r_4 = 0)
      (some ((-1 : Int32), s_earliest, s_latest, s_far))
      (pcl (f_X12_begin x1 s_depths s_far s_tune) (fun far_7 => (
      pbr ((s_books (0 : Int32).toNatClampNeg) = 0)
        (some ((-9 : Int32), s_earliest, s_latest, far_7))
        (pcl (f_X12_beginsOf x2 s_earliest s_latest s_books s_told far_7 s_tune s_depths) (fun (r_10, earliest_11, latest_12) => (
        some (r_10, earliest_11, latest_12, far_7))))))))))))

set_option maxRecDepth 100000 in
set_option maxHeartbeats 4000000 in
theorem ct_X12_begins (l : Launch) (D : va_G) (cA : Nat → ClassId) (x1 : Int32) (x2 : Int32) (a0 : Nat) (q_depths : Nat) (q_far : Nat) (q_tune : Nat) (q_books : Nat) (q_told : Nat) (q_text : Nat) (q_years : Nat) (q_months : Nat) (q_ring : Nat) (q_woods : Nat) (q_ends : Nat) (q_wood : Nat) (q_sheets : Nat) (q_marsh : Nat) (q_oldest : Nat) (q_youngest : Nat) (q_knowns : Nat) (q_known : Nat) (q_weight : Nat) (q_chance : Nat) (q_digs : Nat) (q_draft : Nat) (q_isKept : Nat) (s_trace : Int64) (s_typed : Int32) (s_earliest : Int32) (s_latest : Int32) (s_firstYear : Int32) (s_rings : Int32) (s_depths : Nat → Int32) (s_far : Nat → Int32) (s_tune : Nat → Int32) (s_books : Nat → Int32) (s_told : Nat → Int32) (o_r : Int32) (o_earliest : Int32) (o_latest : Int32) (o_far : Nat → Int32) (hf : f_X12_begins x1 x2 s_earliest s_latest s_depths s_far s_tune s_books s_told = some (o_r, o_earliest, o_latest, o_far)) : CT l yX12_begins wsX12_begins rm_X12_begins D cA [.ref a0, .int x1, .int x2] (w_X12_begins a0 q_depths q_far q_tune q_books q_told q_text q_years q_months q_ring q_woods q_ends q_wood q_sheets q_marsh q_oldest q_youngest q_knowns q_known q_weight q_chance q_digs q_draft q_isKept cA s_trace s_typed s_earliest s_latest s_firstYear s_rings s_depths s_far s_tune s_books s_told) (w_X12_begins a0 q_depths q_far q_tune q_books q_told q_text q_years q_months q_ring q_woods q_ends q_wood q_sheets q_marsh q_oldest q_youngest q_knowns q_known q_weight q_chance q_digs q_draft q_isKept cA s_trace s_typed o_earliest o_latest s_firstYear s_rings s_depths o_far s_tune s_books s_told) (some (.int o_r)) := by
  refine CT.ofW (cc := cX12_begins) (maxL := 3) (ret := (some .int)) (by decide +kernel) rfl (Nat.le_of_ble_eq_true rfl) ?_
  intro p e s m below meth c A C0 hA hP hD ls hl
  have C0 : MX p s m [.ref a0, .int x1, .int x2].toArray meth c cX12_begins 3 wsX12_begins RX12 (some .int) D cA := C0
  have hl : lv_has ls 3 [(0, .ref a0), (1, .int x1), (2, .int x2)] := hl
  obtain ⟨hx, hb, hml, hown, hts, hr, hlocks, hX⟩ := id C0
  have hK := hX.1
  have hN := hX.2
  have hS : va_S A s.heap s.heap [] := va_S.rf
  unfold f_X12_begins at hf
  refine lv_aload_n hx hb dX12_begins_0 rfl (lv_at hl 0 rfl) ?_
  refine lv_iload_n hx hb dX12_begins_1 rfl (lv_at hl 1 rfl) ?_
  obtain ⟨r_1, hc_2, hf⟩ := pcl_e hf
  refine m_callV2 (As := [.int x1]) (rest := []) ⟨hx, hb, hml, hown, hts⟩ hX (ct_X12_isSea l D cA x1 a0 q_depths q_text q_tune q_far q_books q_told q_years q_months q_ring q_woods q_ends q_wood q_sheets q_marsh q_oldest q_youngest q_knowns q_known q_weight q_chance q_digs q_draft q_isKept s_trace s_typed s_earliest s_latest s_firstYear s_rings s_depths r_1 hc_2) (cwV 1 hts gX12_begins_X12_isSea rfl rfl rfl (by decide +kernel) ⟨Nat.le_of_ble_eq_true rfl, Nat.le_of_ble_eq_true rfl⟩) hP hD hS hA [0, 1] [2, 3, 4, 5] 6 (by decide) rfl rfl (WS' := (w_X12_begins a0 q_depths q_far q_tune q_books q_told q_text q_years q_months q_ring q_woods q_ends q_wood q_sheets q_marsh q_oldest q_youngest q_knowns q_known q_weight q_chance q_digs q_draft q_isKept cA s_trace s_typed s_earliest s_latest s_firstYear s_rings s_depths s_far s_tune s_books s_told)) (WR := [(q_far, .inl (cA 1, 48, .inl s_far)), (q_tune, .inl (cA 1, 3, .inl s_tune)), (q_books, .inl (cA 1, 3, .inl s_books)), (q_told, .inl (cA 1, 90, .inl s_told))]) rfl rfl rfl rfl (by decide) (by decide) 0 12 rfl rfl rfl hl.1 rfl (st' := [.int r_1]) rfl (Nat.le_of_ble_eq_true rfl) ⟨Nat.zero_le _, Nat.zero_le _⟩ dX12_begins_2 (fun H locs hP hD hS => ?_)
  refine lv_if_eq (tgt := 18) hx hb dX12_begins_5 (by decide) (fun c_3 => ?_) (fun c_3 => ?_)
  · have hf := pbr_t c_3 hf
    refine lv_iconst (v := (-1 : Int32)) hx hb dX12_begins_18 (by decide) ?_
    obtain ⟨rfl, rfl, rfl, rfl⟩ := pe4 hf
    exact m_iret hx hb hr hlocks hP hS dX12_begins_19
  have hf := pbr_f c_3 hf
  refine lv_iload_n hx hb dX12_begins_8 rfl (lv_at hl 2 rfl) ?_
  refine lv_iconst (v := (1 : Int32)) hx hb dX12_begins_9 (by decide) ?_
  refine lv_bipush (v := (99 : Int32)) hx hb dX12_begins_10 (by decide) ?_
  obtain ⟨r_4, hc_5, hf⟩ := pcl_e hf
  refine m_callS2 (As := [.int x2, .int (1 : Int32), .int (99 : Int32)]) (rest := []) ⟨hx, hb, hml, hown, hts⟩ hX (ct_X12_in l D cA x2 (1 : Int32) (99 : Int32) r_4 hc_5) (va_cwS 3 hts gX12_begins_X12_in rfl rfl rfl (by decide +kernel) ⟨Nat.le_of_ble_eq_true rfl, Nat.le_of_ble_eq_true rfl⟩) hP hD hS hA [] [0, 1, 2, 3, 4, 5] 6 (by decide) rfl rfl (WS' := (w_X12_begins a0 q_depths q_far q_tune q_books q_told q_text q_years q_months q_ring q_woods q_ends q_wood q_sheets q_marsh q_oldest q_youngest q_knowns q_known q_weight q_chance q_digs q_draft q_isKept cA s_trace s_typed s_earliest s_latest s_firstYear s_rings s_depths s_far s_tune s_books s_told)) (WR := [(a0, .inr (12, [.long s_trace, .ref q_text, .int s_typed, .ref q_depths, .ref q_tune, .ref q_far, .ref q_books, .ref q_told, .int s_earliest, .int s_latest, .ref q_years, .ref q_months, .int s_firstYear, .int s_rings, .ref q_ring, .ref q_woods, .ref q_ends, .ref q_wood, .ref q_sheets, .ref q_marsh, .ref q_oldest, .ref q_youngest, .ref q_knowns, .ref q_known, .ref q_weight, .ref q_chance, .ref q_digs, .ref q_draft, .ref q_isKept])), (q_depths, .inl (cA 1, 96, .inl s_depths)), (q_far, .inl (cA 1, 48, .inl s_far)), (q_tune, .inl (cA 1, 3, .inl s_tune)), (q_books, .inl (cA 1, 3, .inl s_books)), (q_told, .inl (cA 1, 90, .inl s_told))]) rfl rfl rfl rfl (by decide) (by decide) rfl hl.1 rfl (st' := [.int r_4]) rfl (Nat.le_of_ble_eq_true rfl) ⟨Nat.zero_le _, Nat.zero_le _⟩ dX12_begins_12 (fun H locs hP hD hS => ?_)
  refine lv_if_ne (tgt := 20) hx hb dX12_begins_15 (by decide) (fun c_6 => ?_) (fun c_6 => ?_)
  · have hf := pbr_f c_6 hf
    refine lv_aload_n hx hb dX12_begins_20 rfl (lv_at hl 0 rfl) ?_
    refine lv_iload_n hx hb dX12_begins_21 rfl (lv_at hl 1 rfl) ?_
    obtain ⟨far_7, hc_8, hf⟩ := pcl_e hf
    refine m_callV2 (As := [.int x1]) (rest := []) ⟨hx, hb, hml, hown, hts⟩ hX (ct_X12_begin l D cA x1 a0 q_depths q_far q_tune q_text q_books q_told q_years q_months q_ring q_woods q_ends q_wood q_sheets q_marsh q_oldest q_youngest q_knowns q_known q_weight q_chance q_digs q_draft q_isKept s_trace s_typed s_earliest s_latest s_firstYear s_rings s_depths s_far s_tune far_7 hc_8) (cwV 1 hts gX12_begins_X12_begin rfl rfl rfl (by decide +kernel) ⟨Nat.le_of_ble_eq_true rfl, Nat.le_of_ble_eq_true rfl⟩) hP hD hS hA [0, 1, 2, 3] [4, 5] 6 (by decide) rfl rfl (WS' := (w_X12_begins a0 q_depths q_far q_tune q_books q_told q_text q_years q_months q_ring q_woods q_ends q_wood q_sheets q_marsh q_oldest q_youngest q_knowns q_known q_weight q_chance q_digs q_draft q_isKept cA s_trace s_typed s_earliest s_latest s_firstYear s_rings s_depths far_7 s_tune s_books s_told)) (WR := [(q_books, .inl (cA 1, 3, .inl s_books)), (q_told, .inl (cA 1, 90, .inl s_told))]) rfl rfl rfl rfl (by decide) (by decide) 0 12 rfl rfl rfl hl.1 rfl (st' := []) rfl (Nat.le_of_ble_eq_true rfl) ⟨Nat.zero_le _, Nat.zero_le _⟩ dX12_begins_22 (fun H locs hP hD hS => ?_)
    refine lv_aload_n hx hb dX12_begins_25 rfl (lv_at hl 0 rfl) ?_
    refine va_get (D := D) (ci := 12) (v := .ref q_books) (C := RX12) (T := TX12) (N := 29) hx hb hts hn_X12_begins_X12 hown hK hP 0 rfl rfl 6 (by decide) (hts _ hw_X12_begins_f23) (fun _ h9 => h9) rfl dX12_begins_26 ?_
    refine lv_iconst (v := (0 : Int32)) hx hb dX12_begins_29 (by decide) ?_
    refine va_iald hx hb hK hP 4 1 rfl rfl (show pin (0 : Int32) 3 by decide +kernel) dX12_begins_30 ?_
    refine lv_if_ne (tgt := 39) hx hb dX12_begins_31 (by decide) (fun c_9 => ?_) (fun c_9 => ?_)
    · have hf := pbr_f c_9 hf
      refine lv_aload_n hx hb dX12_begins_39 rfl (lv_at hl 0 rfl) ?_
      refine lv_iload_n hx hb dX12_begins_40 rfl (lv_at hl 2 rfl) ?_
      obtain ⟨⟨r_10, earliest_11, latest_12⟩, hc_13, hf⟩ := pcl_e hf
      refine m_callV2 (As := [.int x2]) (rest := []) ⟨hx, hb, hml, hown, hts⟩ hX (ct_X12_beginsOf l D cA x2 a0 q_books q_told q_far q_tune q_depths q_text q_years q_months q_ring q_woods q_ends q_wood q_sheets q_marsh q_oldest q_youngest q_knowns q_known q_weight q_chance q_digs q_draft q_isKept s_trace s_typed s_earliest s_latest s_firstYear s_rings s_books s_told far_7 s_tune s_depths r_10 earliest_11 latest_12 hc_13) (cwV 1 hts gX12_begins_X12_beginsOf rfl rfl rfl (by decide +kernel) ⟨Nat.le_of_ble_eq_true rfl, Nat.le_of_ble_eq_true rfl⟩) hP hD hS hA [0, 4, 5, 2, 3, 1] [] 6 (by decide) rfl rfl (WS' := (w_X12_begins a0 q_depths q_far q_tune q_books q_told q_text q_years q_months q_ring q_woods q_ends q_wood q_sheets q_marsh q_oldest q_youngest q_knowns q_known q_weight q_chance q_digs q_draft q_isKept cA s_trace s_typed earliest_11 latest_12 s_firstYear s_rings s_depths far_7 s_tune s_books s_told)) (WR := []) rfl rfl rfl rfl (by decide) (by decide) 0 12 rfl rfl rfl hl.1 rfl (st' := [.int r_10]) rfl (Nat.le_of_ble_eq_true rfl) ⟨Nat.zero_le _, Nat.zero_le _⟩ dX12_begins_41 (fun H locs hP hD hS => ?_)
      obtain ⟨rfl, rfl, rfl, rfl⟩ := pe4 hf
      exact m_iret hx hb hr hlocks hP hS dX12_begins_44
    have hf := pbr_t c_9 hf
    refine lv_bipush (v := (-9 : Int32)) hx hb dX12_begins_34 (by decide) ?_
    refine lv_goto (tgt := 44) hx hb dX12_begins_36 (by decide) ?_
    obtain ⟨rfl, rfl, rfl, rfl⟩ := pe4 hf
    exact m_iret hx hb hr hlocks hP hS dX12_begins_44
  have hf := pbr_t c_6 hf
  refine lv_iconst (v := (-1 : Int32)) hx hb dX12_begins_18 (by decide) ?_
  obtain ⟨rfl, rfl, rfl, rfl⟩ := pe4 hf
  exact m_iret hx hb hr hlocks hP hS dX12_begins_19

/-! ===== OrphanWaveModel.ways(I)I ===== -/
abbrev rm_X12_ways : Room := { frames := 5, cells := 0, slots := 0, locals := 115 }
abbrev w_X12_ways (a0 : Nat) (q_depths : Nat) (q_books : Nat) (q_far : Nat) (q_tune : Nat) (q_told : Nat) (q_text : Nat) (q_years : Nat) (q_months : Nat) (q_ring : Nat) (q_woods : Nat) (q_ends : Nat) (q_wood : Nat) (q_sheets : Nat) (q_marsh : Nat) (q_oldest : Nat) (q_youngest : Nat) (q_knowns : Nat) (q_known : Nat) (q_weight : Nat) (q_chance : Nat) (q_digs : Nat) (q_draft : Nat) (q_isKept : Nat) (cA : Nat → ClassId) (s_trace : Int64) (s_typed : Int32) (s_earliest : Int32) (s_latest : Int32) (s_firstYear : Int32) (s_rings : Int32) (s_depths : Nat → Int32) (s_books : Nat → Int32) (s_far : Nat → Int32) (s_tune : Nat → Int32) (s_told : Nat → Int32) : va_W := [(a0, .inr (12, [.long s_trace, .ref q_text, .int s_typed, .ref q_depths, .ref q_tune, .ref q_far, .ref q_books, .ref q_told, .int s_earliest, .int s_latest, .ref q_years, .ref q_months, .int s_firstYear, .int s_rings, .ref q_ring, .ref q_woods, .ref q_ends, .ref q_wood, .ref q_sheets, .ref q_marsh, .ref q_oldest, .ref q_youngest, .ref q_knowns, .ref q_known, .ref q_weight, .ref q_chance, .ref q_digs, .ref q_draft, .ref q_isKept])), (q_depths, .inl (cA 1, 96, .inl s_depths)), (q_books, .inl (cA 1, 3, .inl s_books)), (q_far, .inl (cA 1, 48, .inl s_far)), (q_tune, .inl (cA 1, 3, .inl s_tune)), (q_told, .inl (cA 1, 90, .inl s_told))]
theorem hn_X12_ways_X12 : ∀ w ∈ u_ws RX12 TX12 29, w ∈ wsX12_ways := by decide +kernel
theorem hw_X12_ways_f23 : Cond.fieldLink RX12 23 "OrphanWaveModel" "books" "[I" ∈ wsX12_ways := by decide +kernel

def f_X12_ways_65 (r31 : (Int32) → (Int32) → (Int32) → (Int32) → (Nat → Int32) → Option ((Int32) × (Int32) × (Int32) × (Nat → Int32))) (s_depths : Nat → Int32) (s_books : Nat → Int32) (s_tune : Nat → Int32) (s_told : Nat → Int32) (x1 : Int32) (x3 : Int32) (z0 : Int32) (z1 : Int32) (s_earliest : Int32) (s_latest : Int32) (s_far : Nat → Int32) : Option ((Int32) × (Int32) × (Int32) × (Nat → Int32)) :=
  plt ((z0 + z1) : Int32) (fun x2_1 => (
  plt (x3 + (1 : Int32) : Int32) (fun x3_2 => (
  r31 x2_1 x3_2 s_earliest s_latest s_far))))

set_option maxRecDepth 100000 in
set_option maxHeartbeats 4000000 in
theorem k_X12_ways_65 {p : Program} {l : Launch} {e : Env} {s : State} {m : MethodId} {args : Array Value} {below : List Frame} {meth : Method} {c : Code} {A : Nat → Prop} {D : va_G} {cA : Nat → ClassId} (C0 : MX p s m args meth c cX12_ways 4 wsX12_ways RX12 (some .int) D cA) (hA : ∀ q, s.heap.size ≤ q → A q) {a0 : Nat} {q_depths : Nat} {q_books : Nat} {q_far : Nat} {q_tune : Nat} {q_told : Nat} {q_text : Nat} {q_years : Nat} {q_months : Nat} {q_ring : Nat} {q_woods : Nat} {q_ends : Nat} {q_wood : Nat} {q_sheets : Nat} {q_marsh : Nat} {q_oldest : Nat} {q_youngest : Nat} {q_knowns : Nat} {q_known : Nat} {q_weight : Nat} {q_chance : Nat} {q_digs : Nat} {q_draft : Nat} {q_isKept : Nat} {s_trace : Int64} {s_typed : Int32} {s_firstYear : Int32} {s_rings : Int32} {s_depths : Nat → Int32} {s_books : Nat → Int32} {s_tune : Nat → Int32} {s_told : Nat → Int32} {x1 : Int32} {o_r : Int32} {o_earliest : Int32} {o_latest : Int32} {o_far : Nat → Int32} {r31 : (Int32) → (Int32) → (Int32) → (Int32) → (Nat → Int32) → Option ((Int32) × (Int32) × (Int32) × (Nat → Int32))} (hr31 : ∀ (x2 : Int32) (x3 : Int32) (s_earliest : Int32) (s_latest : Int32) (s_far : Nat → Int32), r31 x2 x3 s_earliest s_latest s_far = some (o_r, o_earliest, o_latest, o_far) → ∀ (H : Heap) (locs : List Loc), va_P D vwCl (w_X12_ways a0 q_depths q_books q_far q_tune q_told q_text q_years q_months q_ring q_woods q_ends q_wood q_sheets q_marsh q_oldest q_youngest q_knowns q_known q_weight q_chance q_digs q_draft q_isKept cA s_trace s_typed s_earliest s_latest s_firstYear s_rings s_depths s_books s_far s_tune s_told) H → va_D A (w_X12_ways a0 q_depths q_books q_far q_tune q_told q_text q_years q_months q_ring q_woods q_ends q_wood q_sheets q_marsh q_oldest q_youngest q_knowns q_known q_weight q_chance q_digs q_draft q_isKept cA s_trace s_typed s_earliest s_latest s_firstYear s_rings s_depths s_books s_far s_tune s_told) → va_S A s.heap H locs → ∀ ls : Array Slot, lv_has ls 4 [(0, .ref a0), (1, .int x1), (2, .int x2), (3, .int x3)] → W p l e rm_X12_ways s m args below meth c H locs 0 0 (MQ below (CQ D (some (.int o_r)) (w_X12_ways a0 q_depths q_books q_far q_tune q_told q_text q_years q_months q_ring q_woods q_ends q_wood q_sheets q_marsh q_oldest q_youngest q_knowns q_known q_weight q_chance q_digs q_draft q_isKept cA s_trace s_typed o_earliest o_latest s_firstYear s_rings s_depths s_books o_far s_tune s_told) A) args s 0 0 A) (F0 m 31 ls [])) : ∀ (x3 : Int32) (z0 : Int32) (z1 : Int32) (s_earliest : Int32) (s_latest : Int32) (s_far : Nat → Int32), f_X12_ways_65 r31 s_depths s_books s_tune s_told x1 x3 z0 z1 s_earliest s_latest s_far = some (o_r, o_earliest, o_latest, o_far) → ∀ (H : Heap) (locs : List Loc), va_P D vwCl (w_X12_ways a0 q_depths q_books q_far q_tune q_told q_text q_years q_months q_ring q_woods q_ends q_wood q_sheets q_marsh q_oldest q_youngest q_knowns q_known q_weight q_chance q_digs q_draft q_isKept cA s_trace s_typed s_earliest s_latest s_firstYear s_rings s_depths s_books s_far s_tune s_told) H → va_D A (w_X12_ways a0 q_depths q_books q_far q_tune q_told q_text q_years q_months q_ring q_woods q_ends q_wood q_sheets q_marsh q_oldest q_youngest q_knowns q_known q_weight q_chance q_digs q_draft q_isKept cA s_trace s_typed s_earliest s_latest s_firstYear s_rings s_depths s_books s_far s_tune s_told) → va_S A s.heap H locs → ∀ ls : Array Slot, lv_has ls 4 [(0, .ref a0), (1, .int x1), (3, .int x3)] → W p l e rm_X12_ways s m args below meth c H locs 0 0 (MQ below (CQ D (some (.int o_r)) (w_X12_ways a0 q_depths q_books q_far q_tune q_told q_text q_years q_months q_ring q_woods q_ends q_wood q_sheets q_marsh q_oldest q_youngest q_knowns q_known q_weight q_chance q_digs q_draft q_isKept cA s_trace s_typed o_earliest o_latest s_firstYear s_rings s_depths s_books o_far s_tune s_told) A) args s 0 0 A) (F0 m 65 ls [.int z1, .int z0]) := by
  obtain ⟨hx, hb, hml, hown, hts, hr, hlocks, hX⟩ := C0
  have hK := hX.1
  have hN := hX.2
  intro x3 z0 z1 s_earliest s_latest s_far hf H locs hP hD hS ls hl
  unfold f_X12_ways_65 at hf
  refine lv_iadd hx hb dX12_ways_65 ?_
  refine lv_topi (fun x2_1 ex2_1 => ?_)
  have hf := plt_e ex2_1 hf
  refine lv_istore_n (lv' := [(2, .int x2_1), (0, .ref a0), (1, .int x1), (3, .int x3)]) hx hb dX12_ways_66 rfl hl (by decide) rfl (fun ls hl => ?_)
  obtain ⟨x3_2, ex3_2⟩ : ∃ z : Int32, z = x3 + (1 : Int32) := ⟨_, rfl⟩
  have hf := plt_e ex3_2 hf
  refine lv_iinc (v := x3_2) (lv' := [(3, .int x3_2), (2, .int x2_1), (0, .ref a0), (1, .int x1)]) hx hb dX12_ways_67 hl (k := 3) rfl (by rw [ex3_2]; rfl) (by decide) rfl (fun ls hl => ?_)
  refine lv_goto (tgt := 31) hx hb dX12_ways_70 (by decide) ?_
  exact hr31 x2_1 x3_2 s_earliest s_latest s_far hf _ _ hP hD hS ls (lv_sub hl [2, 3, 1, 0] rfl)

def f_X12_ways_64 (r31 : (Int32) → (Int32) → (Int32) → (Int32) → (Nat → Int32) → Option ((Int32) × (Int32) × (Int32) × (Nat → Int32))) (s_depths : Nat → Int32) (s_books : Nat → Int32) (s_tune : Nat → Int32) (s_told : Nat → Int32) (x1 : Int32) (x3 : Int32) (z0 : Int32) (s_earliest : Int32) (s_latest : Int32) (s_far : Nat → Int32) : Option ((Int32) × (Int32) × (Int32) × (Nat → Int32)) :=
  f_X12_ways_65 r31 s_depths s_books s_tune s_told x1 x3 z0 (0 : Int32) s_earliest s_latest s_far

set_option maxRecDepth 100000 in
set_option maxHeartbeats 4000000 in
theorem k_X12_ways_64 {p : Program} {l : Launch} {e : Env} {s : State} {m : MethodId} {args : Array Value} {below : List Frame} {meth : Method} {c : Code} {A : Nat → Prop} {D : va_G} {cA : Nat → ClassId} (C0 : MX p s m args meth c cX12_ways 4 wsX12_ways RX12 (some .int) D cA) (hA : ∀ q, s.heap.size ≤ q → A q) {a0 : Nat} {q_depths : Nat} {q_books : Nat} {q_far : Nat} {q_tune : Nat} {q_told : Nat} {q_text : Nat} {q_years : Nat} {q_months : Nat} {q_ring : Nat} {q_woods : Nat} {q_ends : Nat} {q_wood : Nat} {q_sheets : Nat} {q_marsh : Nat} {q_oldest : Nat} {q_youngest : Nat} {q_knowns : Nat} {q_known : Nat} {q_weight : Nat} {q_chance : Nat} {q_digs : Nat} {q_draft : Nat} {q_isKept : Nat} {s_trace : Int64} {s_typed : Int32} {s_firstYear : Int32} {s_rings : Int32} {s_depths : Nat → Int32} {s_books : Nat → Int32} {s_tune : Nat → Int32} {s_told : Nat → Int32} {x1 : Int32} {o_r : Int32} {o_earliest : Int32} {o_latest : Int32} {o_far : Nat → Int32} {r31 : (Int32) → (Int32) → (Int32) → (Int32) → (Nat → Int32) → Option ((Int32) × (Int32) × (Int32) × (Nat → Int32))} (hr31 : ∀ (x2 : Int32) (x3 : Int32) (s_earliest : Int32) (s_latest : Int32) (s_far : Nat → Int32), r31 x2 x3 s_earliest s_latest s_far = some (o_r, o_earliest, o_latest, o_far) → ∀ (H : Heap) (locs : List Loc), va_P D vwCl (w_X12_ways a0 q_depths q_books q_far q_tune q_told q_text q_years q_months q_ring q_woods q_ends q_wood q_sheets q_marsh q_oldest q_youngest q_knowns q_known q_weight q_chance q_digs q_draft q_isKept cA s_trace s_typed s_earliest s_latest s_firstYear s_rings s_depths s_books s_far s_tune s_told) H → va_D A (w_X12_ways a0 q_depths q_books q_far q_tune q_told q_text q_years q_months q_ring q_woods q_ends q_wood q_sheets q_marsh q_oldest q_youngest q_knowns q_known q_weight q_chance q_digs q_draft q_isKept cA s_trace s_typed s_earliest s_latest s_firstYear s_rings s_depths s_books s_far s_tune s_told) → va_S A s.heap H locs → ∀ ls : Array Slot, lv_has ls 4 [(0, .ref a0), (1, .int x1), (2, .int x2), (3, .int x3)] → W p l e rm_X12_ways s m args below meth c H locs 0 0 (MQ below (CQ D (some (.int o_r)) (w_X12_ways a0 q_depths q_books q_far q_tune q_told q_text q_years q_months q_ring q_woods q_ends q_wood q_sheets q_marsh q_oldest q_youngest q_knowns q_known q_weight q_chance q_digs q_draft q_isKept cA s_trace s_typed o_earliest o_latest s_firstYear s_rings s_depths s_books o_far s_tune s_told) A) args s 0 0 A) (F0 m 31 ls [])) : ∀ (x3 : Int32) (z0 : Int32) (s_earliest : Int32) (s_latest : Int32) (s_far : Nat → Int32), f_X12_ways_64 r31 s_depths s_books s_tune s_told x1 x3 z0 s_earliest s_latest s_far = some (o_r, o_earliest, o_latest, o_far) → ∀ (H : Heap) (locs : List Loc), va_P D vwCl (w_X12_ways a0 q_depths q_books q_far q_tune q_told q_text q_years q_months q_ring q_woods q_ends q_wood q_sheets q_marsh q_oldest q_youngest q_knowns q_known q_weight q_chance q_digs q_draft q_isKept cA s_trace s_typed s_earliest s_latest s_firstYear s_rings s_depths s_books s_far s_tune s_told) H → va_D A (w_X12_ways a0 q_depths q_books q_far q_tune q_told q_text q_years q_months q_ring q_woods q_ends q_wood q_sheets q_marsh q_oldest q_youngest q_knowns q_known q_weight q_chance q_digs q_draft q_isKept cA s_trace s_typed s_earliest s_latest s_firstYear s_rings s_depths s_books s_far s_tune s_told) → va_S A s.heap H locs → ∀ ls : Array Slot, lv_has ls 4 [(0, .ref a0), (1, .int x1), (3, .int x3)] → W p l e rm_X12_ways s m args below meth c H locs 0 0 (MQ below (CQ D (some (.int o_r)) (w_X12_ways a0 q_depths q_books q_far q_tune q_told q_text q_years q_months q_ring q_woods q_ends q_wood q_sheets q_marsh q_oldest q_youngest q_knowns q_known q_weight q_chance q_digs q_draft q_isKept cA s_trace s_typed o_earliest o_latest s_firstYear s_rings s_depths s_books o_far s_tune s_told) A) args s 0 0 A) (F0 m 64 ls [.int z0]) := by
  obtain ⟨hx, hb, hml, hown, hts, hr, hlocks, hX⟩ := C0
  have hK := hX.1
  have hN := hX.2
  intro x3 z0 s_earliest s_latest s_far hf H locs hP hD hS ls hl
  unfold f_X12_ways_64 at hf
  refine lv_iconst (v := (0 : Int32)) hx hb dX12_ways_64 (by decide) ?_
  exact k_X12_ways_65 ⟨hx, hb, hml, hown, hts, hr, hlocks, hX⟩ hA hr31 x3 z0 (0 : Int32) s_earliest s_latest s_far hf _ _ hP hD hS ls (lv_sub hl [0, 1, 2] rfl)

def f_X12_ways_56 (r31 : (Int32) → (Int32) → (Int32) → (Int32) → (Nat → Int32) → Option ((Int32) × (Int32) × (Int32) × (Nat → Int32))) (s_depths : Nat → Int32) (s_books : Nat → Int32) (s_tune : Nat → Int32) (s_told : Nat → Int32) (x1 : Int32) (x3 : Int32) (z0 : Int32) (s_earliest : Int32) (s_latest : Int32) (s_far : Nat → Int32) : Option ((Int32) × (Int32) × (Int32) × (Nat → Int32)) :=
  pcl (f_X12_waysOf x3 s_earliest s_latest s_depths s_far s_tune s_books s_told) (fun (r_1, earliest_2, latest_3, far_4) => (
  f_X12_ways_65 r31 s_depths s_books s_tune s_told x1 x3 z0 r_1 earliest_2 latest_3 far_4))

set_option maxRecDepth 100000 in
set_option maxHeartbeats 4000000 in
theorem k_X12_ways_56 {p : Program} {l : Launch} {e : Env} {s : State} {m : MethodId} {args : Array Value} {below : List Frame} {meth : Method} {c : Code} {A : Nat → Prop} {D : va_G} {cA : Nat → ClassId} (C0 : MX p s m args meth c cX12_ways 4 wsX12_ways RX12 (some .int) D cA) (hA : ∀ q, s.heap.size ≤ q → A q) {a0 : Nat} {q_depths : Nat} {q_books : Nat} {q_far : Nat} {q_tune : Nat} {q_told : Nat} {q_text : Nat} {q_years : Nat} {q_months : Nat} {q_ring : Nat} {q_woods : Nat} {q_ends : Nat} {q_wood : Nat} {q_sheets : Nat} {q_marsh : Nat} {q_oldest : Nat} {q_youngest : Nat} {q_knowns : Nat} {q_known : Nat} {q_weight : Nat} {q_chance : Nat} {q_digs : Nat} {q_draft : Nat} {q_isKept : Nat} {s_trace : Int64} {s_typed : Int32} {s_firstYear : Int32} {s_rings : Int32} {s_depths : Nat → Int32} {s_books : Nat → Int32} {s_tune : Nat → Int32} {s_told : Nat → Int32} {x1 : Int32} {o_r : Int32} {o_earliest : Int32} {o_latest : Int32} {o_far : Nat → Int32} {r31 : (Int32) → (Int32) → (Int32) → (Int32) → (Nat → Int32) → Option ((Int32) × (Int32) × (Int32) × (Nat → Int32))} (hr31 : ∀ (x2 : Int32) (x3 : Int32) (s_earliest : Int32) (s_latest : Int32) (s_far : Nat → Int32), r31 x2 x3 s_earliest s_latest s_far = some (o_r, o_earliest, o_latest, o_far) → ∀ (H : Heap) (locs : List Loc), va_P D vwCl (w_X12_ways a0 q_depths q_books q_far q_tune q_told q_text q_years q_months q_ring q_woods q_ends q_wood q_sheets q_marsh q_oldest q_youngest q_knowns q_known q_weight q_chance q_digs q_draft q_isKept cA s_trace s_typed s_earliest s_latest s_firstYear s_rings s_depths s_books s_far s_tune s_told) H → va_D A (w_X12_ways a0 q_depths q_books q_far q_tune q_told q_text q_years q_months q_ring q_woods q_ends q_wood q_sheets q_marsh q_oldest q_youngest q_knowns q_known q_weight q_chance q_digs q_draft q_isKept cA s_trace s_typed s_earliest s_latest s_firstYear s_rings s_depths s_books s_far s_tune s_told) → va_S A s.heap H locs → ∀ ls : Array Slot, lv_has ls 4 [(0, .ref a0), (1, .int x1), (2, .int x2), (3, .int x3)] → W p l e rm_X12_ways s m args below meth c H locs 0 0 (MQ below (CQ D (some (.int o_r)) (w_X12_ways a0 q_depths q_books q_far q_tune q_told q_text q_years q_months q_ring q_woods q_ends q_wood q_sheets q_marsh q_oldest q_youngest q_knowns q_known q_weight q_chance q_digs q_draft q_isKept cA s_trace s_typed o_earliest o_latest s_firstYear s_rings s_depths s_books o_far s_tune s_told) A) args s 0 0 A) (F0 m 31 ls [])) : ∀ (x3 : Int32) (z0 : Int32) (s_earliest : Int32) (s_latest : Int32) (s_far : Nat → Int32), f_X12_ways_56 r31 s_depths s_books s_tune s_told x1 x3 z0 s_earliest s_latest s_far = some (o_r, o_earliest, o_latest, o_far) → ∀ (H : Heap) (locs : List Loc), va_P D vwCl (w_X12_ways a0 q_depths q_books q_far q_tune q_told q_text q_years q_months q_ring q_woods q_ends q_wood q_sheets q_marsh q_oldest q_youngest q_knowns q_known q_weight q_chance q_digs q_draft q_isKept cA s_trace s_typed s_earliest s_latest s_firstYear s_rings s_depths s_books s_far s_tune s_told) H → va_D A (w_X12_ways a0 q_depths q_books q_far q_tune q_told q_text q_years q_months q_ring q_woods q_ends q_wood q_sheets q_marsh q_oldest q_youngest q_knowns q_known q_weight q_chance q_digs q_draft q_isKept cA s_trace s_typed s_earliest s_latest s_firstYear s_rings s_depths s_books s_far s_tune s_told) → va_S A s.heap H locs → ∀ ls : Array Slot, lv_has ls 4 [(0, .ref a0), (1, .int x1), (3, .int x3)] → W p l e rm_X12_ways s m args below meth c H locs 0 0 (MQ below (CQ D (some (.int o_r)) (w_X12_ways a0 q_depths q_books q_far q_tune q_told q_text q_years q_months q_ring q_woods q_ends q_wood q_sheets q_marsh q_oldest q_youngest q_knowns q_known q_weight q_chance q_digs q_draft q_isKept cA s_trace s_typed o_earliest o_latest s_firstYear s_rings s_depths s_books o_far s_tune s_told) A) args s 0 0 A) (F0 m 56 ls [.int z0]) := by
  obtain ⟨hx, hb, hml, hown, hts, hr, hlocks, hX⟩ := C0
  have hK := hX.1
  have hN := hX.2
  intro x3 z0 s_earliest s_latest s_far hf H locs hP hD hS ls hl
  unfold f_X12_ways_56 at hf
  refine lv_aload_n hx hb dX12_ways_56 rfl (lv_at hl 0 rfl) ?_
  refine lv_iload_n hx hb dX12_ways_57 rfl (lv_at hl 2 rfl) ?_
  obtain ⟨⟨r_1, earliest_2, latest_3, far_4⟩, hc_5, hf⟩ := pcl_e hf
  refine m_callV2 (As := [.int x3]) (rest := [.int z0]) ⟨hx, hb, hml, hown, hts⟩ hX (ct_X12_waysOf l D cA x3 a0 q_depths q_far q_tune q_books q_told q_text q_years q_months q_ring q_woods q_ends q_wood q_sheets q_marsh q_oldest q_youngest q_knowns q_known q_weight q_chance q_digs q_draft q_isKept s_trace s_typed s_earliest s_latest s_firstYear s_rings s_depths s_far s_tune s_books s_told r_1 earliest_2 latest_3 far_4 hc_5) (cwV 1 hts gX12_ways_X12_waysOf rfl rfl rfl (by decide +kernel) ⟨Nat.le_of_ble_eq_true rfl, Nat.le_of_ble_eq_true rfl⟩) hP hD hS hA [0, 1, 3, 4, 2, 5] [] 6 (by decide) rfl rfl (WS' := (w_X12_ways a0 q_depths q_books q_far q_tune q_told q_text q_years q_months q_ring q_woods q_ends q_wood q_sheets q_marsh q_oldest q_youngest q_knowns q_known q_weight q_chance q_digs q_draft q_isKept cA s_trace s_typed earliest_2 latest_3 s_firstYear s_rings s_depths s_books far_4 s_tune s_told)) (WR := []) rfl rfl rfl rfl (by decide) (by decide) 0 12 rfl rfl rfl hl.1 rfl (st' := [.int r_1, .int z0]) rfl (Nat.le_of_ble_eq_true rfl) ⟨Nat.zero_le _, Nat.zero_le _⟩ dX12_ways_58 (fun H locs hP hD hS => ?_)
  refine lv_goto (tgt := 65) hx hb dX12_ways_61 (by decide) ?_
  exact k_X12_ways_65 ⟨hx, hb, hml, hown, hts, hr, hlocks, hX⟩ hA hr31 x3 z0 r_1 earliest_2 latest_3 far_4 hf _ _ hP hD hS ls (lv_sub hl [0, 1, 2] rfl)

def f_X12_ways_31 (s_depths : Nat → Int32) (s_books : Nat → Int32) (s_tune : Nat → Int32) (s_told : Nat → Int32) (x1 : Int32) : Nat → (Int32) → (Int32) → (Int32) → (Int32) → (Nat → Int32) → Option ((Int32) × (Int32) × (Int32) × (Nat → Int32))
  | 0, _, _, _, _, _ => none
  | k + 1, x2, x3, s_earliest, s_latest, s_far =>
    pbr ((48 : Int32) ≤ x3)
      (some (x2, s_earliest, s_latest, s_far))
      (pcl (f_X12_isSea x3 s_depths) (fun r_2 => (
      pbr (r_2 = 0)
        (f_X12_ways_64 (f_X12_ways_31 s_depths s_books s_tune s_told x1 k) s_depths s_books s_tune s_told x1 x3 x2 s_earliest s_latest s_far)
        (pbr (x1 = (-1 : Int32))
          (f_X12_ways_56 (f_X12_ways_31 s_depths s_books s_tune s_told x1 k) s_depths s_books s_tune s_told x1 x3 x2 s_earliest s_latest s_far)
          (pbr (x1 = x3)
            (f_X12_ways_56 (f_X12_ways_31 s_depths s_books s_tune s_told x1 k) s_depths s_books s_tune s_told x1 x3 x2 s_earliest s_latest s_far)
            (f_X12_ways_64 (f_X12_ways_31 s_depths s_books s_tune s_told x1 k) s_depths s_books s_tune s_told x1 x3 x2 s_earliest s_latest s_far))))))

set_option maxRecDepth 100000 in
set_option maxHeartbeats 4000000 in
theorem k_X12_ways_31 {p : Program} {l : Launch} {e : Env} {s : State} {m : MethodId} {args : Array Value} {below : List Frame} {meth : Method} {c : Code} {A : Nat → Prop} {D : va_G} {cA : Nat → ClassId} (C0 : MX p s m args meth c cX12_ways 4 wsX12_ways RX12 (some .int) D cA) (hA : ∀ q, s.heap.size ≤ q → A q) {a0 : Nat} {q_depths : Nat} {q_books : Nat} {q_far : Nat} {q_tune : Nat} {q_told : Nat} {q_text : Nat} {q_years : Nat} {q_months : Nat} {q_ring : Nat} {q_woods : Nat} {q_ends : Nat} {q_wood : Nat} {q_sheets : Nat} {q_marsh : Nat} {q_oldest : Nat} {q_youngest : Nat} {q_knowns : Nat} {q_known : Nat} {q_weight : Nat} {q_chance : Nat} {q_digs : Nat} {q_draft : Nat} {q_isKept : Nat} {s_trace : Int64} {s_typed : Int32} {s_firstYear : Int32} {s_rings : Int32} {s_depths : Nat → Int32} {s_books : Nat → Int32} {s_tune : Nat → Int32} {s_told : Nat → Int32} {x1 : Int32} {o_r : Int32} {o_earliest : Int32} {o_latest : Int32} {o_far : Nat → Int32} : ∀ (k : Nat) (x2 : Int32) (x3 : Int32) (s_earliest : Int32) (s_latest : Int32) (s_far : Nat → Int32), f_X12_ways_31 s_depths s_books s_tune s_told x1 k x2 x3 s_earliest s_latest s_far = some (o_r, o_earliest, o_latest, o_far) → ∀ (H : Heap) (locs : List Loc), va_P D vwCl (w_X12_ways a0 q_depths q_books q_far q_tune q_told q_text q_years q_months q_ring q_woods q_ends q_wood q_sheets q_marsh q_oldest q_youngest q_knowns q_known q_weight q_chance q_digs q_draft q_isKept cA s_trace s_typed s_earliest s_latest s_firstYear s_rings s_depths s_books s_far s_tune s_told) H → va_D A (w_X12_ways a0 q_depths q_books q_far q_tune q_told q_text q_years q_months q_ring q_woods q_ends q_wood q_sheets q_marsh q_oldest q_youngest q_knowns q_known q_weight q_chance q_digs q_draft q_isKept cA s_trace s_typed s_earliest s_latest s_firstYear s_rings s_depths s_books s_far s_tune s_told) → va_S A s.heap H locs → ∀ ls : Array Slot, lv_has ls 4 [(0, .ref a0), (1, .int x1), (2, .int x2), (3, .int x3)] → W p l e rm_X12_ways s m args below meth c H locs 0 0 (MQ below (CQ D (some (.int o_r)) (w_X12_ways a0 q_depths q_books q_far q_tune q_told q_text q_years q_months q_ring q_woods q_ends q_wood q_sheets q_marsh q_oldest q_youngest q_knowns q_known q_weight q_chance q_digs q_draft q_isKept cA s_trace s_typed o_earliest o_latest s_firstYear s_rings s_depths s_books o_far s_tune s_told) A) args s 0 0 A) (F0 m 31 ls []) := by
  obtain ⟨hx, hb, hml, hown, hts, hr, hlocks, hX⟩ := C0
  have hK := hX.1
  have hN := hX.2
  intro k
  induction k with
  | zero =>
    intro x2 x3 s_earliest s_latest s_far hf
    cases hf
  | succ k ih =>
    intro x2 x3 s_earliest s_latest s_far hf H locs hP hD hS ls hl
    rw [f_X12_ways_31] at hf
    refine lv_iload_n hx hb dX12_ways_31 rfl (lv_at hl 3 rfl) ?_
    refine lv_bipush (v := (48 : Int32)) hx hb dX12_ways_32 (by decide) ?_
    refine lv_icmp_ge (tgt := 73) hx hb dX12_ways_34 (by decide) (fun c_1 => ?_) (fun c_1 => ?_)
    · have hf := pbr_t c_1 hf
      refine lv_iload_n hx hb dX12_ways_73 rfl (lv_at hl 2 rfl) ?_
      obtain ⟨rfl, rfl, rfl, rfl⟩ := pe4 hf
      exact m_iret hx hb hr hlocks hP hS dX12_ways_74
    have hf := pbr_f c_1 hf
    refine lv_iload_n hx hb dX12_ways_37 rfl (lv_at hl 2 rfl) ?_
    refine lv_aload_n hx hb dX12_ways_38 rfl (lv_at hl 0 rfl) ?_
    refine lv_iload_n hx hb dX12_ways_39 rfl (lv_at hl 3 rfl) ?_
    obtain ⟨r_2, hc_3, hf⟩ := pcl_e hf
    refine m_callV2 (As := [.int x3]) (rest := [.int x2]) ⟨hx, hb, hml, hown, hts⟩ hX (ct_X12_isSea l D cA x3 a0 q_depths q_text q_tune q_far q_books q_told q_years q_months q_ring q_woods q_ends q_wood q_sheets q_marsh q_oldest q_youngest q_knowns q_known q_weight q_chance q_digs q_draft q_isKept s_trace s_typed s_earliest s_latest s_firstYear s_rings s_depths r_2 hc_3) (cwV 1 hts gX12_ways_X12_isSea rfl rfl rfl (by decide +kernel) ⟨Nat.le_of_ble_eq_true rfl, Nat.le_of_ble_eq_true rfl⟩) hP hD hS hA [0, 1] [2, 3, 4, 5] 6 (by decide) rfl rfl (WS' := (w_X12_ways a0 q_depths q_books q_far q_tune q_told q_text q_years q_months q_ring q_woods q_ends q_wood q_sheets q_marsh q_oldest q_youngest q_knowns q_known q_weight q_chance q_digs q_draft q_isKept cA s_trace s_typed s_earliest s_latest s_firstYear s_rings s_depths s_books s_far s_tune s_told)) (WR := [(q_books, .inl (cA 1, 3, .inl s_books)), (q_far, .inl (cA 1, 48, .inl s_far)), (q_tune, .inl (cA 1, 3, .inl s_tune)), (q_told, .inl (cA 1, 90, .inl s_told))]) rfl rfl rfl rfl (by decide) (by decide) 0 12 rfl rfl rfl hl.1 rfl (st' := [.int r_2, .int x2]) rfl (Nat.le_of_ble_eq_true rfl) ⟨Nat.zero_le _, Nat.zero_le _⟩ dX12_ways_40 (fun H locs hP hD hS => ?_)
    refine lv_if_eq (tgt := 64) hx hb dX12_ways_43 (by decide) (fun c_4 => ?_) (fun c_4 => ?_)
    · have hf := pbr_t c_4 hf
      exact k_X12_ways_64 ⟨hx, hb, hml, hown, hts, hr, hlocks, hX⟩ hA ih x3 x2 s_earliest s_latest s_far hf _ _ hP hD hS ls (lv_sub hl [0, 1, 3] rfl)
    have hf := pbr_f c_4 hf
    refine lv_iload_n hx hb dX12_ways_46 rfl (lv_at hl 1 rfl) ?_
    refine lv_iconst (v := (-1 : Int32)) hx hb dX12_ways_47 (by decide) ?_
    refine lv_icmp_eq (tgt := 56) hx hb dX12_ways_48 (by decide) (fun c_5 => ?_) (fun c_5 => ?_)
    · have hf := pbr_t c_5 hf
      exact k_X12_ways_56 ⟨hx, hb, hml, hown, hts, hr, hlocks, hX⟩ hA ih x3 x2 s_earliest s_latest s_far hf _ _ hP hD hS ls (lv_sub hl [0, 1, 3] rfl)
    have hf := pbr_f c_5 hf
    refine lv_iload_n hx hb dX12_ways_51 rfl (lv_at hl 1 rfl) ?_
    refine lv_iload_n hx hb dX12_ways_52 rfl (lv_at hl 3 rfl) ?_
    refine lv_icmp_ne (tgt := 64) hx hb dX12_ways_53 (by decide) (fun c_6 => ?_) (fun c_6 => ?_)
    · have hf := pbr_f c_6 hf
      exact k_X12_ways_64 ⟨hx, hb, hml, hown, hts, hr, hlocks, hX⟩ hA ih x3 x2 s_earliest s_latest s_far hf _ _ hP hD hS ls (lv_sub hl [0, 1, 3] rfl)
    have hf := pbr_t c_6 hf
    exact k_X12_ways_56 ⟨hx, hb, hml, hown, hts, hr, hlocks, hX⟩ hA ih x3 x2 s_earliest s_latest s_far hf _ _ hP hD hS ls (lv_sub hl [0, 1, 3] rfl)

def f_X12_ways_15 (s_depths : Nat → Int32) (s_books : Nat → Int32) (s_tune : Nat → Int32) (s_told : Nat → Int32) (x1 : Int32) (s_earliest : Int32) (s_latest : Int32) (s_far : Nat → Int32) : Option ((Int32) × (Int32) × (Int32) × (Nat → Int32)) :=
  pbr ((s_books (0 : Int32).toNatClampNeg) = 0)
    (some ((-9 : Int32), s_earliest, s_latest, s_far))
    (f_X12_ways_31 s_depths s_books s_tune s_told x1 FU (0 : Int32) (0 : Int32) s_earliest s_latest s_far)

set_option maxRecDepth 100000 in
set_option maxHeartbeats 4000000 in
theorem k_X12_ways_15 {p : Program} {l : Launch} {e : Env} {s : State} {m : MethodId} {args : Array Value} {below : List Frame} {meth : Method} {c : Code} {A : Nat → Prop} {D : va_G} {cA : Nat → ClassId} (C0 : MX p s m args meth c cX12_ways 4 wsX12_ways RX12 (some .int) D cA) (hA : ∀ q, s.heap.size ≤ q → A q) {a0 : Nat} {q_depths : Nat} {q_books : Nat} {q_far : Nat} {q_tune : Nat} {q_told : Nat} {q_text : Nat} {q_years : Nat} {q_months : Nat} {q_ring : Nat} {q_woods : Nat} {q_ends : Nat} {q_wood : Nat} {q_sheets : Nat} {q_marsh : Nat} {q_oldest : Nat} {q_youngest : Nat} {q_knowns : Nat} {q_known : Nat} {q_weight : Nat} {q_chance : Nat} {q_digs : Nat} {q_draft : Nat} {q_isKept : Nat} {s_trace : Int64} {s_typed : Int32} {s_firstYear : Int32} {s_rings : Int32} {s_depths : Nat → Int32} {s_books : Nat → Int32} {s_tune : Nat → Int32} {s_told : Nat → Int32} {x1 : Int32} {o_r : Int32} {o_earliest : Int32} {o_latest : Int32} {o_far : Nat → Int32} : ∀ (s_earliest : Int32) (s_latest : Int32) (s_far : Nat → Int32), f_X12_ways_15 s_depths s_books s_tune s_told x1 s_earliest s_latest s_far = some (o_r, o_earliest, o_latest, o_far) → ∀ (H : Heap) (locs : List Loc), va_P D vwCl (w_X12_ways a0 q_depths q_books q_far q_tune q_told q_text q_years q_months q_ring q_woods q_ends q_wood q_sheets q_marsh q_oldest q_youngest q_knowns q_known q_weight q_chance q_digs q_draft q_isKept cA s_trace s_typed s_earliest s_latest s_firstYear s_rings s_depths s_books s_far s_tune s_told) H → va_D A (w_X12_ways a0 q_depths q_books q_far q_tune q_told q_text q_years q_months q_ring q_woods q_ends q_wood q_sheets q_marsh q_oldest q_youngest q_knowns q_known q_weight q_chance q_digs q_draft q_isKept cA s_trace s_typed s_earliest s_latest s_firstYear s_rings s_depths s_books s_far s_tune s_told) → va_S A s.heap H locs → ∀ ls : Array Slot, lv_has ls 4 [(0, .ref a0), (1, .int x1)] → W p l e rm_X12_ways s m args below meth c H locs 0 0 (MQ below (CQ D (some (.int o_r)) (w_X12_ways a0 q_depths q_books q_far q_tune q_told q_text q_years q_months q_ring q_woods q_ends q_wood q_sheets q_marsh q_oldest q_youngest q_knowns q_known q_weight q_chance q_digs q_draft q_isKept cA s_trace s_typed o_earliest o_latest s_firstYear s_rings s_depths s_books o_far s_tune s_told) A) args s 0 0 A) (F0 m 15 ls []) := by
  obtain ⟨hx, hb, hml, hown, hts, hr, hlocks, hX⟩ := C0
  have hK := hX.1
  have hN := hX.2
  intro s_earliest s_latest s_far hf H locs hP hD hS ls hl
  unfold f_X12_ways_15 at hf
  refine lv_aload_n hx hb dX12_ways_15 rfl (lv_at hl 0 rfl) ?_
  refine va_get (D := D) (ci := 12) (v := .ref q_books) (C := RX12) (T := TX12) (N := 29) hx hb hts hn_X12_ways_X12 hown hK hP 0 rfl rfl 6 (by decide) (hts _ hw_X12_ways_f23) (fun _ h9 => h9) rfl dX12_ways_16 ?_
  refine lv_iconst (v := (0 : Int32)) hx hb dX12_ways_19 (by decide) ?_
  refine va_iald hx hb hK hP 2 1 rfl rfl (show pin (0 : Int32) 3 by decide +kernel) dX12_ways_20 ?_
  refine lv_if_ne (tgt := 27) hx hb dX12_ways_21 (by decide) (fun c_1 => ?_) (fun c_1 => ?_)
  · have hf := pbr_f c_1 hf
    refine lv_iconst (v := (0 : Int32)) hx hb dX12_ways_27 (by decide) ?_
    refine lv_istore_n (lv' := [(2, .int (0 : Int32)), (0, .ref a0), (1, .int x1)]) hx hb dX12_ways_28 rfl hl (by decide) rfl (fun ls hl => ?_)
    refine lv_iconst (v := (0 : Int32)) hx hb dX12_ways_29 (by decide) ?_
    refine lv_istore_n (lv' := [(3, .int (0 : Int32)), (2, .int (0 : Int32)), (0, .ref a0), (1, .int x1)]) hx hb dX12_ways_30 rfl hl (by decide) rfl (fun ls hl => ?_)
    exact k_X12_ways_31 ⟨hx, hb, hml, hown, hts, hr, hlocks, hX⟩ hA FU (0 : Int32) (0 : Int32) s_earliest s_latest s_far hf _ _ hP hD hS ls (lv_sub hl [2, 3, 1, 0] rfl)
  have hf := pbr_t c_1 hf
  refine lv_bipush (v := (-9 : Int32)) hx hb dX12_ways_24 (by decide) ?_
  obtain ⟨rfl, rfl, rfl, rfl⟩ := pe4 hf
  exact m_iret hx hb hr hlocks hP hS dX12_ways_26

def f_X12_ways (x1 : Int32) (s_earliest : Int32) (s_latest : Int32) (s_depths : Nat → Int32) (s_books : Nat → Int32) (s_far : Nat → Int32) (s_tune : Nat → Int32) (s_told : Nat → Int32) : Option ((Int32) × (Int32) × (Int32) × (Nat → Int32)) :=
  pbr (x1 = (-1 : Int32))
    (f_X12_ways_15 s_depths s_books s_tune s_told x1 s_earliest s_latest s_far)
    (pcl (f_X12_isSea x1 s_depths) (fun r_2 => (
    pbr (r_2 = 0)
      (some ((-1 : Int32), s_earliest, s_latest, s_far))
      (f_X12_ways_15 s_depths s_books s_tune s_told x1 s_earliest s_latest s_far))))

set_option maxRecDepth 100000 in
set_option maxHeartbeats 4000000 in
theorem ct_X12_ways (l : Launch) (D : va_G) (cA : Nat → ClassId) (x1 : Int32) (a0 : Nat) (q_depths : Nat) (q_books : Nat) (q_far : Nat) (q_tune : Nat) (q_told : Nat) (q_text : Nat) (q_years : Nat) (q_months : Nat) (q_ring : Nat) (q_woods : Nat) (q_ends : Nat) (q_wood : Nat) (q_sheets : Nat) (q_marsh : Nat) (q_oldest : Nat) (q_youngest : Nat) (q_knowns : Nat) (q_known : Nat) (q_weight : Nat) (q_chance : Nat) (q_digs : Nat) (q_draft : Nat) (q_isKept : Nat) (s_trace : Int64) (s_typed : Int32) (s_earliest : Int32) (s_latest : Int32) (s_firstYear : Int32) (s_rings : Int32) (s_depths : Nat → Int32) (s_books : Nat → Int32) (s_far : Nat → Int32) (s_tune : Nat → Int32) (s_told : Nat → Int32) (o_r : Int32) (o_earliest : Int32) (o_latest : Int32) (o_far : Nat → Int32) (hf : f_X12_ways x1 s_earliest s_latest s_depths s_books s_far s_tune s_told = some (o_r, o_earliest, o_latest, o_far)) : CT l yX12_ways wsX12_ways rm_X12_ways D cA [.ref a0, .int x1] (w_X12_ways a0 q_depths q_books q_far q_tune q_told q_text q_years q_months q_ring q_woods q_ends q_wood q_sheets q_marsh q_oldest q_youngest q_knowns q_known q_weight q_chance q_digs q_draft q_isKept cA s_trace s_typed s_earliest s_latest s_firstYear s_rings s_depths s_books s_far s_tune s_told) (w_X12_ways a0 q_depths q_books q_far q_tune q_told q_text q_years q_months q_ring q_woods q_ends q_wood q_sheets q_marsh q_oldest q_youngest q_knowns q_known q_weight q_chance q_digs q_draft q_isKept cA s_trace s_typed o_earliest o_latest s_firstYear s_rings s_depths s_books o_far s_tune s_told) (some (.int o_r)) := by
  refine CT.ofW (cc := cX12_ways) (maxL := 4) (ret := (some .int)) (by decide +kernel) rfl (Nat.le_of_ble_eq_true rfl) ?_
  intro p e s m below meth c A C0 hA hP hD ls hl
  have C0 : MX p s m [.ref a0, .int x1].toArray meth c cX12_ways 4 wsX12_ways RX12 (some .int) D cA := C0
  have hl : lv_has ls 4 [(0, .ref a0), (1, .int x1)] := hl
  obtain ⟨hx, hb, hml, hown, hts, hr, hlocks, hX⟩ := id C0
  have hK := hX.1
  have hN := hX.2
  have hS : va_S A s.heap s.heap [] := va_S.rf
  unfold f_X12_ways at hf
  refine lv_iload_n hx hb dX12_ways_0 rfl (lv_at hl 1 rfl) ?_
  refine lv_iconst (v := (-1 : Int32)) hx hb dX12_ways_1 (by decide) ?_
  refine lv_icmp_eq (tgt := 15) hx hb dX12_ways_2 (by decide) (fun c_1 => ?_) (fun c_1 => ?_)
  · have hf := pbr_t c_1 hf
    exact k_X12_ways_15 C0 hA s_earliest s_latest s_far hf _ _ hP hD hS ls (lv_sub hl [0, 1] rfl)
  have hf := pbr_f c_1 hf
  refine lv_aload_n hx hb dX12_ways_5 rfl (lv_at hl 0 rfl) ?_
  refine lv_iload_n hx hb dX12_ways_6 rfl (lv_at hl 1 rfl) ?_
  obtain ⟨r_2, hc_3, hf⟩ := pcl_e hf
  refine m_callV2 (As := [.int x1]) (rest := []) ⟨hx, hb, hml, hown, hts⟩ hX (ct_X12_isSea l D cA x1 a0 q_depths q_text q_tune q_far q_books q_told q_years q_months q_ring q_woods q_ends q_wood q_sheets q_marsh q_oldest q_youngest q_knowns q_known q_weight q_chance q_digs q_draft q_isKept s_trace s_typed s_earliest s_latest s_firstYear s_rings s_depths r_2 hc_3) (cwV 1 hts gX12_ways_X12_isSea rfl rfl rfl (by decide +kernel) ⟨Nat.le_of_ble_eq_true rfl, Nat.le_of_ble_eq_true rfl⟩) hP hD hS hA [0, 1] [2, 3, 4, 5] 6 (by decide) rfl rfl (WS' := (w_X12_ways a0 q_depths q_books q_far q_tune q_told q_text q_years q_months q_ring q_woods q_ends q_wood q_sheets q_marsh q_oldest q_youngest q_knowns q_known q_weight q_chance q_digs q_draft q_isKept cA s_trace s_typed s_earliest s_latest s_firstYear s_rings s_depths s_books s_far s_tune s_told)) (WR := [(q_books, .inl (cA 1, 3, .inl s_books)), (q_far, .inl (cA 1, 48, .inl s_far)), (q_tune, .inl (cA 1, 3, .inl s_tune)), (q_told, .inl (cA 1, 90, .inl s_told))]) rfl rfl rfl rfl (by decide) (by decide) 0 12 rfl rfl rfl hl.1 rfl (st' := [.int r_2]) rfl (Nat.le_of_ble_eq_true rfl) ⟨Nat.zero_le _, Nat.zero_le _⟩ dX12_ways_7 (fun H locs hP hD hS => ?_)
  refine lv_if_ne (tgt := 15) hx hb dX12_ways_10 (by decide) (fun c_4 => ?_) (fun c_4 => ?_)
  · have hf := pbr_f c_4 hf
    exact k_X12_ways_15 C0 hA s_earliest s_latest s_far hf _ _ hP hD hS ls (lv_sub hl [0, 1] rfl)
  have hf := pbr_t c_4 hf
  refine lv_iconst (v := (-1 : Int32)) hx hb dX12_ways_13 (by decide) ?_
  obtain ⟨rfl, rfl, rfl, rfl⟩ := pe4 hf
  exact m_iret hx hb hr hlocks hP hS dX12_ways_14
