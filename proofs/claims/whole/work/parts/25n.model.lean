/-! ===== OrphanWaveModel.joinedBy(I)I ===== -/
abbrev rm_X12_joinedBy : Room := { frames := 1, cells := 0, slots := 0, locals := 22 }
abbrev w_X12_joinedBy (a0 : Nat) (q_sheets : Nat) (q_oldest : Nat) (q_youngest : Nat) (q_marsh : Nat) (q_text : Nat) (q_depths : Nat) (q_tune : Nat) (q_far : Nat) (q_books : Nat) (q_told : Nat) (q_years : Nat) (q_months : Nat) (q_ring : Nat) (q_woods : Nat) (q_ends : Nat) (q_wood : Nat) (q_knowns : Nat) (q_known : Nat) (q_weight : Nat) (q_chance : Nat) (q_digs : Nat) (q_draft : Nat) (q_isKept : Nat) (cA : Nat → ClassId) (s_trace : Int64) (s_typed : Int32) (s_earliest : Int32) (s_latest : Int32) (s_firstYear : Int32) (s_rings : Int32) (s_sheets : Nat → Int32) (s_oldest : Nat → Int32) (s_youngest : Nat → Int32) (s_marsh : Nat → Int32) : va_W := [(a0, .inr (12, [.long s_trace, .ref q_text, .int s_typed, .ref q_depths, .ref q_tune, .ref q_far, .ref q_books, .ref q_told, .int s_earliest, .int s_latest, .ref q_years, .ref q_months, .int s_firstYear, .int s_rings, .ref q_ring, .ref q_woods, .ref q_ends, .ref q_wood, .ref q_sheets, .ref q_marsh, .ref q_oldest, .ref q_youngest, .ref q_knowns, .ref q_known, .ref q_weight, .ref q_chance, .ref q_digs, .ref q_draft, .ref q_isKept])), (q_sheets, .inl (cA 1, 3, .inl s_sheets)), (q_oldest, .inl (cA 1, 36, .inl s_oldest)), (q_youngest, .inl (cA 1, 36, .inl s_youngest)), (q_marsh, .inl (cA 1, 36, .inl s_marsh))]
theorem hn_X12_joinedBy_X12 : ∀ w ∈ u_ws RX12 TX12 29, w ∈ wsX12_joinedBy := by decide +kernel
theorem hw_X12_joinedBy_f47 : Cond.fieldLink RX12 47 "OrphanWaveModel" "sheets" "[I" ∈ wsX12_joinedBy := by decide +kernel
theorem hw_X12_joinedBy_f53 : Cond.fieldLink RX12 53 "OrphanWaveModel" "oldest" "[I" ∈ wsX12_joinedBy := by decide +kernel
theorem hw_X12_joinedBy_f56 : Cond.fieldLink RX12 56 "OrphanWaveModel" "youngest" "[I" ∈ wsX12_joinedBy := by decide +kernel
theorem hw_X12_joinedBy_f50 : Cond.fieldLink RX12 50 "OrphanWaveModel" "marsh" "[I" ∈ wsX12_joinedBy := by decide +kernel

def f_X12_joinedBy_46 (r4 : (Int32) → (Int32) → Option ((Int32))) (s_sheets : Nat → Int32) (s_oldest : Nat → Int32) (s_youngest : Nat → Int32) (s_marsh : Nat → Int32) (x1 : Int32) (x3 : Int32) (z0 : Int32) (z1 : Int32) : Option ((Int32)) :=
  plt ((z0 ||| z1) : Int32) (fun x2_1 => (
  plt (x3 + (1 : Int32) : Int32) (fun x3_2 => (
  r4 x2_1 x3_2))))

set_option maxRecDepth 100000 in
set_option maxHeartbeats 4000000 in
theorem k_X12_joinedBy_46 {p : Program} {l : Launch} {e : Env} {s : State} {m : MethodId} {args : Array Value} {below : List Frame} {meth : Method} {c : Code} {A : Nat → Prop} {D : va_G} {cA : Nat → ClassId} (C0 : MX p s m args meth c cX12_joinedBy 4 wsX12_joinedBy RX12 (some .int) D cA) (hA : ∀ q, s.heap.size ≤ q → A q) {a0 : Nat} {q_sheets : Nat} {q_oldest : Nat} {q_youngest : Nat} {q_marsh : Nat} {q_text : Nat} {q_depths : Nat} {q_tune : Nat} {q_far : Nat} {q_books : Nat} {q_told : Nat} {q_years : Nat} {q_months : Nat} {q_ring : Nat} {q_woods : Nat} {q_ends : Nat} {q_wood : Nat} {q_knowns : Nat} {q_known : Nat} {q_weight : Nat} {q_chance : Nat} {q_digs : Nat} {q_draft : Nat} {q_isKept : Nat} {s_trace : Int64} {s_typed : Int32} {s_earliest : Int32} {s_latest : Int32} {s_firstYear : Int32} {s_rings : Int32} {s_sheets : Nat → Int32} {s_oldest : Nat → Int32} {s_youngest : Nat → Int32} {s_marsh : Nat → Int32} {x1 : Int32} {o_r : Int32} {r4 : (Int32) → (Int32) → Option ((Int32))} (hr4 : ∀ (x2 : Int32) (x3 : Int32), r4 x2 x3 = some o_r → ∀ (H : Heap) (locs : List Loc), va_P D vwCl (w_X12_joinedBy a0 q_sheets q_oldest q_youngest q_marsh q_text q_depths q_tune q_far q_books q_told q_years q_months q_ring q_woods q_ends q_wood q_knowns q_known q_weight q_chance q_digs q_draft q_isKept cA s_trace s_typed s_earliest s_latest s_firstYear s_rings s_sheets s_oldest s_youngest s_marsh) H → va_D A (w_X12_joinedBy a0 q_sheets q_oldest q_youngest q_marsh q_text q_depths q_tune q_far q_books q_told q_years q_months q_ring q_woods q_ends q_wood q_knowns q_known q_weight q_chance q_digs q_draft q_isKept cA s_trace s_typed s_earliest s_latest s_firstYear s_rings s_sheets s_oldest s_youngest s_marsh) → va_S A s.heap H locs → ∀ ls : Array Slot, lv_has ls 4 [(0, .ref a0), (1, .int x1), (2, .int x2), (3, .int x3)] → W p l e rm_X12_joinedBy s m args below meth c H locs 0 0 (MQ below (CQ D (some (.int o_r)) (w_X12_joinedBy a0 q_sheets q_oldest q_youngest q_marsh q_text q_depths q_tune q_far q_books q_told q_years q_months q_ring q_woods q_ends q_wood q_knowns q_known q_weight q_chance q_digs q_draft q_isKept cA s_trace s_typed s_earliest s_latest s_firstYear s_rings s_sheets s_oldest s_youngest s_marsh) A) args s 0 0 A) (F0 m 4 ls [])) : ∀ (x3 : Int32) (z0 : Int32) (z1 : Int32), f_X12_joinedBy_46 r4 s_sheets s_oldest s_youngest s_marsh x1 x3 z0 z1 = some o_r → ∀ (H : Heap) (locs : List Loc), va_P D vwCl (w_X12_joinedBy a0 q_sheets q_oldest q_youngest q_marsh q_text q_depths q_tune q_far q_books q_told q_years q_months q_ring q_woods q_ends q_wood q_knowns q_known q_weight q_chance q_digs q_draft q_isKept cA s_trace s_typed s_earliest s_latest s_firstYear s_rings s_sheets s_oldest s_youngest s_marsh) H → va_D A (w_X12_joinedBy a0 q_sheets q_oldest q_youngest q_marsh q_text q_depths q_tune q_far q_books q_told q_years q_months q_ring q_woods q_ends q_wood q_knowns q_known q_weight q_chance q_digs q_draft q_isKept cA s_trace s_typed s_earliest s_latest s_firstYear s_rings s_sheets s_oldest s_youngest s_marsh) → va_S A s.heap H locs → ∀ ls : Array Slot, lv_has ls 4 [(0, .ref a0), (1, .int x1), (3, .int x3)] → W p l e rm_X12_joinedBy s m args below meth c H locs 0 0 (MQ below (CQ D (some (.int o_r)) (w_X12_joinedBy a0 q_sheets q_oldest q_youngest q_marsh q_text q_depths q_tune q_far q_books q_told q_years q_months q_ring q_woods q_ends q_wood q_knowns q_known q_weight q_chance q_digs q_draft q_isKept cA s_trace s_typed s_earliest s_latest s_firstYear s_rings s_sheets s_oldest s_youngest s_marsh) A) args s 0 0 A) (F0 m 46 ls [.int z1, .int z0]) := by
  obtain ⟨hx, hb, hml, hown, hts, hr, hlocks, hX⟩ := C0
  have hK := hX.1
  have hN := hX.2
  intro x3 z0 z1 hf H locs hP hD hS ls hl
  unfold f_X12_joinedBy_46 at hf
  refine lv_ior hx hb dX12_joinedBy_46 ?_
  refine lv_topi (fun x2_1 ex2_1 => ?_)
  have hf := plt_e ex2_1 hf
  refine lv_istore_n (lv' := [(2, .int x2_1), (0, .ref a0), (1, .int x1), (3, .int x3)]) hx hb dX12_joinedBy_47 rfl hl (by decide) rfl (fun ls hl => ?_)
  obtain ⟨x3_2, ex3_2⟩ : ∃ z : Int32, z = x3 + (1 : Int32) := ⟨_, rfl⟩
  have hf := plt_e ex3_2 hf
  refine lv_iinc (v := x3_2) (lv' := [(3, .int x3_2), (2, .int x2_1), (0, .ref a0), (1, .int x1)]) hx hb dX12_joinedBy_48 hl (k := 3) rfl (by rw [ex3_2]; rfl) (by decide) rfl (fun ls hl => ?_)
  refine lv_goto (tgt := 4) hx hb dX12_joinedBy_51 (by decide) ?_
  exact hr4 x2_1 x3_2 hf _ _ hP hD hS ls (lv_sub hl [2, 3, 1, 0] rfl)

def f_X12_joinedBy_4 (s_sheets : Nat → Int32) (s_oldest : Nat → Int32) (s_youngest : Nat → Int32) (s_marsh : Nat → Int32) (x1 : Int32) : Nat → (Int32) → (Int32) → Option ((Int32))
  | 0, _, _ => none
  | k + 1, x2, x3 =>
    pbr ((s_sheets (0 : Int32).toNatClampNeg) ≤ x3)
      (some (x2))
      (pgd (pin x3 36) (
      pcl (f_X12_in x1 (s_oldest x3.toNatClampNeg) (s_youngest x3.toNatClampNeg)) (fun r_3 => (
      pbr (r_3 = 0)
        (f_X12_joinedBy_46 (f_X12_joinedBy_4 s_sheets s_oldest s_youngest s_marsh x1 k) s_sheets s_oldest s_youngest s_marsh x1 x3 x2 (0 : Int32))
        (f_X12_joinedBy_46 (f_X12_joinedBy_4 s_sheets s_oldest s_youngest s_marsh x1 k) s_sheets s_oldest s_youngest s_marsh x1 x3 x2 ((1 : Int32) <<< ((s_marsh x3.toNatClampNeg) &&& 31)))))))

set_option maxRecDepth 100000 in
set_option maxHeartbeats 4000000 in
theorem k_X12_joinedBy_4 {p : Program} {l : Launch} {e : Env} {s : State} {m : MethodId} {args : Array Value} {below : List Frame} {meth : Method} {c : Code} {A : Nat → Prop} {D : va_G} {cA : Nat → ClassId} (C0 : MX p s m args meth c cX12_joinedBy 4 wsX12_joinedBy RX12 (some .int) D cA) (hA : ∀ q, s.heap.size ≤ q → A q) {a0 : Nat} {q_sheets : Nat} {q_oldest : Nat} {q_youngest : Nat} {q_marsh : Nat} {q_text : Nat} {q_depths : Nat} {q_tune : Nat} {q_far : Nat} {q_books : Nat} {q_told : Nat} {q_years : Nat} {q_months : Nat} {q_ring : Nat} {q_woods : Nat} {q_ends : Nat} {q_wood : Nat} {q_knowns : Nat} {q_known : Nat} {q_weight : Nat} {q_chance : Nat} {q_digs : Nat} {q_draft : Nat} {q_isKept : Nat} {s_trace : Int64} {s_typed : Int32} {s_earliest : Int32} {s_latest : Int32} {s_firstYear : Int32} {s_rings : Int32} {s_sheets : Nat → Int32} {s_oldest : Nat → Int32} {s_youngest : Nat → Int32} {s_marsh : Nat → Int32} {x1 : Int32} {o_r : Int32} : ∀ (k : Nat) (x2 : Int32) (x3 : Int32), f_X12_joinedBy_4 s_sheets s_oldest s_youngest s_marsh x1 k x2 x3 = some o_r → ∀ (H : Heap) (locs : List Loc), va_P D vwCl (w_X12_joinedBy a0 q_sheets q_oldest q_youngest q_marsh q_text q_depths q_tune q_far q_books q_told q_years q_months q_ring q_woods q_ends q_wood q_knowns q_known q_weight q_chance q_digs q_draft q_isKept cA s_trace s_typed s_earliest s_latest s_firstYear s_rings s_sheets s_oldest s_youngest s_marsh) H → va_D A (w_X12_joinedBy a0 q_sheets q_oldest q_youngest q_marsh q_text q_depths q_tune q_far q_books q_told q_years q_months q_ring q_woods q_ends q_wood q_knowns q_known q_weight q_chance q_digs q_draft q_isKept cA s_trace s_typed s_earliest s_latest s_firstYear s_rings s_sheets s_oldest s_youngest s_marsh) → va_S A s.heap H locs → ∀ ls : Array Slot, lv_has ls 4 [(0, .ref a0), (1, .int x1), (2, .int x2), (3, .int x3)] → W p l e rm_X12_joinedBy s m args below meth c H locs 0 0 (MQ below (CQ D (some (.int o_r)) (w_X12_joinedBy a0 q_sheets q_oldest q_youngest q_marsh q_text q_depths q_tune q_far q_books q_told q_years q_months q_ring q_woods q_ends q_wood q_knowns q_known q_weight q_chance q_digs q_draft q_isKept cA s_trace s_typed s_earliest s_latest s_firstYear s_rings s_sheets s_oldest s_youngest s_marsh) A) args s 0 0 A) (F0 m 4 ls []) := by
  obtain ⟨hx, hb, hml, hown, hts, hr, hlocks, hX⟩ := C0
  have hK := hX.1
  have hN := hX.2
  intro k
  induction k with
  | zero =>
    intro x2 x3 hf
    cases hf
  | succ k ih =>
    intro x2 x3 hf H locs hP hD hS ls hl
    rw [f_X12_joinedBy_4] at hf
    refine lv_iload_n hx hb dX12_joinedBy_4 rfl (lv_at hl 3 rfl) ?_
    refine lv_aload_n hx hb dX12_joinedBy_5 rfl (lv_at hl 0 rfl) ?_
    refine va_get (D := D) (ci := 12) (v := .ref q_sheets) (C := RX12) (T := TX12) (N := 29) hx hb hts hn_X12_joinedBy_X12 hown hK hP 0 rfl rfl 18 (by decide) (hts _ hw_X12_joinedBy_f47) (fun _ h9 => h9) rfl dX12_joinedBy_6 ?_
    refine lv_iconst (v := (0 : Int32)) hx hb dX12_joinedBy_9 (by decide) ?_
    refine va_iald hx hb hK hP 1 1 rfl rfl (show pin (0 : Int32) 3 by decide +kernel) dX12_joinedBy_10 ?_
    refine lv_icmp_ge (tgt := 54) hx hb dX12_joinedBy_11 (by decide) (fun c_1 => ?_) (fun c_1 => ?_)
    · have hf := pbr_t c_1 hf
      refine lv_iload_n hx hb dX12_joinedBy_54 rfl (lv_at hl 2 rfl) ?_
      obtain rfl := pe1 hf
      exact m_iret hx hb hr hlocks hP hS dX12_joinedBy_55
    have hf := pbr_f c_1 hf
    refine lv_iload_n hx hb dX12_joinedBy_14 rfl (lv_at hl 2 rfl) ?_
    refine lv_iload_n hx hb dX12_joinedBy_15 rfl (lv_at hl 1 rfl) ?_
    refine lv_aload_n hx hb dX12_joinedBy_16 rfl (lv_at hl 0 rfl) ?_
    refine va_get (D := D) (ci := 12) (v := .ref q_oldest) (C := RX12) (T := TX12) (N := 29) hx hb hts hn_X12_joinedBy_X12 hown hK hP 0 rfl rfl 20 (by decide) (hts _ hw_X12_joinedBy_f53) (fun _ h9 => h9) rfl dX12_joinedBy_17 ?_
    refine lv_iload_n hx hb dX12_joinedBy_20 rfl (lv_at hl 3 rfl) ?_
    obtain ⟨g_2, hf⟩ := pgd_e hf
    refine va_iald hx hb hK hP 2 1 rfl rfl g_2 dX12_joinedBy_21 ?_
    refine lv_aload_n hx hb dX12_joinedBy_22 rfl (lv_at hl 0 rfl) ?_
    refine va_get (D := D) (ci := 12) (v := .ref q_youngest) (C := RX12) (T := TX12) (N := 29) hx hb hts hn_X12_joinedBy_X12 hown hK hP 0 rfl rfl 21 (by decide) (hts _ hw_X12_joinedBy_f56) (fun _ h9 => h9) rfl dX12_joinedBy_23 ?_
    refine lv_iload_n hx hb dX12_joinedBy_26 rfl (lv_at hl 3 rfl) ?_
    refine va_iald hx hb hK hP 3 1 rfl rfl g_2 dX12_joinedBy_27 ?_
    obtain ⟨r_3, hc_4, hf⟩ := pcl_e hf
    refine m_callS2 (As := [.int x1, .int (s_oldest x3.toNatClampNeg), .int (s_youngest x3.toNatClampNeg)]) (rest := [.int x2]) ⟨hx, hb, hml, hown, hts⟩ hX (ct_X12_in l D cA x1 (s_oldest x3.toNatClampNeg) (s_youngest x3.toNatClampNeg) r_3 hc_4) (va_cwS 3 hts gX12_joinedBy_X12_in rfl rfl rfl (by decide +kernel) ⟨Nat.le_of_ble_eq_true rfl, Nat.le_of_ble_eq_true rfl⟩) hP hD hS hA [] [0, 1, 2, 3, 4] 5 (by decide) rfl rfl (WS' := (w_X12_joinedBy a0 q_sheets q_oldest q_youngest q_marsh q_text q_depths q_tune q_far q_books q_told q_years q_months q_ring q_woods q_ends q_wood q_knowns q_known q_weight q_chance q_digs q_draft q_isKept cA s_trace s_typed s_earliest s_latest s_firstYear s_rings s_sheets s_oldest s_youngest s_marsh)) (WR := [(a0, .inr (12, [.long s_trace, .ref q_text, .int s_typed, .ref q_depths, .ref q_tune, .ref q_far, .ref q_books, .ref q_told, .int s_earliest, .int s_latest, .ref q_years, .ref q_months, .int s_firstYear, .int s_rings, .ref q_ring, .ref q_woods, .ref q_ends, .ref q_wood, .ref q_sheets, .ref q_marsh, .ref q_oldest, .ref q_youngest, .ref q_knowns, .ref q_known, .ref q_weight, .ref q_chance, .ref q_digs, .ref q_draft, .ref q_isKept])), (q_sheets, .inl (cA 1, 3, .inl s_sheets)), (q_oldest, .inl (cA 1, 36, .inl s_oldest)), (q_youngest, .inl (cA 1, 36, .inl s_youngest)), (q_marsh, .inl (cA 1, 36, .inl s_marsh))]) rfl rfl rfl rfl (by decide) (by decide) rfl hl.1 rfl (st' := [.int r_3, .int x2]) rfl (Nat.le_of_ble_eq_true rfl) ⟨Nat.zero_le _, Nat.zero_le _⟩ dX12_joinedBy_28 (fun H locs hP hD hS => ?_)
    refine lv_if_eq (tgt := 45) hx hb dX12_joinedBy_31 (by decide) (fun c_5 => ?_) (fun c_5 => ?_)
    · have hf := pbr_t c_5 hf
      refine lv_iconst (v := (0 : Int32)) hx hb dX12_joinedBy_45 (by decide) ?_
      exact k_X12_joinedBy_46 ⟨hx, hb, hml, hown, hts, hr, hlocks, hX⟩ hA ih x3 x2 (0 : Int32) hf _ _ hP hD hS ls (lv_sub hl [0, 1, 3] rfl)
    have hf := pbr_f c_5 hf
    refine lv_iconst (v := (1 : Int32)) hx hb dX12_joinedBy_34 (by decide) ?_
    refine lv_aload_n hx hb dX12_joinedBy_35 rfl (lv_at hl 0 rfl) ?_
    refine va_get (D := D) (ci := 12) (v := .ref q_marsh) (C := RX12) (T := TX12) (N := 29) hx hb hts hn_X12_joinedBy_X12 hown hK hP 0 rfl rfl 19 (by decide) (hts _ hw_X12_joinedBy_f50) (fun _ h9 => h9) rfl dX12_joinedBy_36 ?_
    refine lv_iload_n hx hb dX12_joinedBy_39 rfl (lv_at hl 3 rfl) ?_
    refine va_iald hx hb hK hP 4 1 rfl rfl g_2 dX12_joinedBy_40 ?_
    refine lv_ishl hx hb dX12_joinedBy_41 ?_
    refine lv_goto (tgt := 46) hx hb dX12_joinedBy_42 (by decide) ?_
    exact k_X12_joinedBy_46 ⟨hx, hb, hml, hown, hts, hr, hlocks, hX⟩ hA ih x3 x2 ((1 : Int32) <<< ((s_marsh x3.toNatClampNeg) &&& 31)) hf _ _ hP hD hS ls (lv_sub hl [0, 1, 3] rfl)

def f_X12_joinedBy (x1 : Int32) (s_sheets : Nat → Int32) (s_oldest : Nat → Int32) (s_youngest : Nat → Int32) (s_marsh : Nat → Int32) : Option ((Int32)) :=
  f_X12_joinedBy_4 s_sheets s_oldest s_youngest s_marsh x1 FU (0 : Int32) (0 : Int32)

set_option maxRecDepth 100000 in
set_option maxHeartbeats 4000000 in
theorem ct_X12_joinedBy (l : Launch) (D : va_G) (cA : Nat → ClassId) (x1 : Int32) (a0 : Nat) (q_sheets : Nat) (q_oldest : Nat) (q_youngest : Nat) (q_marsh : Nat) (q_text : Nat) (q_depths : Nat) (q_tune : Nat) (q_far : Nat) (q_books : Nat) (q_told : Nat) (q_years : Nat) (q_months : Nat) (q_ring : Nat) (q_woods : Nat) (q_ends : Nat) (q_wood : Nat) (q_knowns : Nat) (q_known : Nat) (q_weight : Nat) (q_chance : Nat) (q_digs : Nat) (q_draft : Nat) (q_isKept : Nat) (s_trace : Int64) (s_typed : Int32) (s_earliest : Int32) (s_latest : Int32) (s_firstYear : Int32) (s_rings : Int32) (s_sheets : Nat → Int32) (s_oldest : Nat → Int32) (s_youngest : Nat → Int32) (s_marsh : Nat → Int32) (o_r : Int32) (hf : f_X12_joinedBy x1 s_sheets s_oldest s_youngest s_marsh = some o_r) : CT l yX12_joinedBy wsX12_joinedBy rm_X12_joinedBy D cA [.ref a0, .int x1] (w_X12_joinedBy a0 q_sheets q_oldest q_youngest q_marsh q_text q_depths q_tune q_far q_books q_told q_years q_months q_ring q_woods q_ends q_wood q_knowns q_known q_weight q_chance q_digs q_draft q_isKept cA s_trace s_typed s_earliest s_latest s_firstYear s_rings s_sheets s_oldest s_youngest s_marsh) (w_X12_joinedBy a0 q_sheets q_oldest q_youngest q_marsh q_text q_depths q_tune q_far q_books q_told q_years q_months q_ring q_woods q_ends q_wood q_knowns q_known q_weight q_chance q_digs q_draft q_isKept cA s_trace s_typed s_earliest s_latest s_firstYear s_rings s_sheets s_oldest s_youngest s_marsh) (some (.int o_r)) := by
  refine CT.ofW (cc := cX12_joinedBy) (maxL := 4) (ret := (some .int)) (by decide +kernel) rfl (Nat.le_of_ble_eq_true rfl) ?_
  intro p e s m below meth c A C0 hA hP hD ls hl
  have C0 : MX p s m [.ref a0, .int x1].toArray meth c cX12_joinedBy 4 wsX12_joinedBy RX12 (some .int) D cA := C0
  have hl : lv_has ls 4 [(0, .ref a0), (1, .int x1)] := hl
  obtain ⟨hx, hb, hml, hown, hts, hr, hlocks, hX⟩ := id C0
  have hK := hX.1
  have hN := hX.2
  have hS : va_S A s.heap s.heap [] := va_S.rf
  unfold f_X12_joinedBy at hf
  refine lv_iconst (v := (0 : Int32)) hx hb dX12_joinedBy_0 (by decide) ?_
  refine lv_istore_n (lv' := [(2, .int (0 : Int32)), (0, .ref a0), (1, .int x1)]) hx hb dX12_joinedBy_1 rfl hl (by decide) rfl (fun ls hl => ?_)
  refine lv_iconst (v := (0 : Int32)) hx hb dX12_joinedBy_2 (by decide) ?_
  refine lv_istore_n (lv' := [(3, .int (0 : Int32)), (2, .int (0 : Int32)), (0, .ref a0), (1, .int x1)]) hx hb dX12_joinedBy_3 rfl hl (by decide) rfl (fun ls hl => ?_)
  exact k_X12_joinedBy_4 C0 hA FU (0 : Int32) (0 : Int32) hf _ _ hP hD hS ls (lv_sub hl [2, 3, 1, 0] rfl)

/-! ===== OrphanWaveModel.bitsIn(I)I ===== -/
abbrev rm_X12_bitsIn : Room := { frames := 0, cells := 0, slots := 0, locals := 0 }
abbrev w_X12_bitsIn  (cA : Nat → ClassId)  : va_W := []

def f_X12_bitsIn_4 (x0 : Int32) : Nat → (Int32) → (Int32) → Option ((Int32))
  | 0, _, _ => none
  | k + 1, x1, x2 =>
    pbr ((8 : Int32) ≤ x2)
      (some (x1))
      (plt ((x1 + ((x0 >>> (x2 &&& 31)) &&& (1 : Int32))) : Int32) (fun x1_2 => (
      plt (x2 + (1 : Int32) : Int32) (fun x2_3 => (
      (f_X12_bitsIn_4 x0 k) x1_2 x2_3)))))

set_option maxRecDepth 100000 in
set_option maxHeartbeats 4000000 in
theorem k_X12_bitsIn_4 {p : Program} {l : Launch} {e : Env} {s : State} {m : MethodId} {args : Array Value} {below : List Frame} {meth : Method} {c : Code} {A : Nat → Prop} {D : va_G} {cA : Nat → ClassId} (C0 : MX p s m args meth c cX12_bitsIn 3 wsX12_bitsIn RX12 (some .int) D cA) (hA : ∀ q, s.heap.size ≤ q → A q) {x0 : Int32} {o_r : Int32} : ∀ (k : Nat) (x1 : Int32) (x2 : Int32), f_X12_bitsIn_4 x0 k x1 x2 = some o_r → ∀ (H : Heap) (locs : List Loc), va_P D vwCl (w_X12_bitsIn  cA ) H → va_D A (w_X12_bitsIn  cA ) → va_S A s.heap H locs → ∀ ls : Array Slot, lv_has ls 3 [(0, .int x0), (1, .int x1), (2, .int x2)] → W p l e rm_X12_bitsIn s m args below meth c H locs 0 0 (MQ below (CQ D (some (.int o_r)) (w_X12_bitsIn  cA ) A) args s 0 0 A) (F0 m 4 ls []) := by
  obtain ⟨hx, hb, hml, hown, hts, hr, hlocks, hX⟩ := C0
  have hK := hX.1
  have hN := hX.2
  intro k
  induction k with
  | zero =>
    intro x1 x2 hf
    cases hf
  | succ k ih =>
    intro x1 x2 hf H locs hP hD hS ls hl
    rw [f_X12_bitsIn_4] at hf
    refine lv_iload_n hx hb dX12_bitsIn_4 rfl (lv_at hl 2 rfl) ?_
    refine lv_bipush (v := (8 : Int32)) hx hb dX12_bitsIn_5 (by decide) ?_
    refine lv_icmp_ge (tgt := 24) hx hb dX12_bitsIn_7 (by decide) (fun c_1 => ?_) (fun c_1 => ?_)
    · have hf := pbr_t c_1 hf
      refine lv_iload_n hx hb dX12_bitsIn_24 rfl (lv_at hl 1 rfl) ?_
      obtain rfl := pe1 hf
      exact m_iret hx hb hr hlocks hP hS dX12_bitsIn_25
    have hf := pbr_f c_1 hf
    refine lv_iload_n hx hb dX12_bitsIn_10 rfl (lv_at hl 1 rfl) ?_
    refine lv_iload_n hx hb dX12_bitsIn_11 rfl (lv_at hl 0 rfl) ?_
    refine lv_iload_n hx hb dX12_bitsIn_12 rfl (lv_at hl 2 rfl) ?_
    refine lv_ishr hx hb dX12_bitsIn_13 ?_
    refine lv_iconst (v := (1 : Int32)) hx hb dX12_bitsIn_14 (by decide) ?_
    refine lv_iand hx hb dX12_bitsIn_15 ?_
    refine lv_iadd hx hb dX12_bitsIn_16 ?_
    refine lv_topi (fun x1_2 ex1_2 => ?_)
    have hf := plt_e ex1_2 hf
    refine lv_istore_n (lv' := [(1, .int x1_2), (0, .int x0), (2, .int x2)]) hx hb dX12_bitsIn_17 rfl hl (by decide) rfl (fun ls hl => ?_)
    obtain ⟨x2_3, ex2_3⟩ : ∃ z : Int32, z = x2 + (1 : Int32) := ⟨_, rfl⟩
    have hf := plt_e ex2_3 hf
    refine lv_iinc (v := x2_3) (lv' := [(2, .int x2_3), (1, .int x1_2), (0, .int x0)]) hx hb dX12_bitsIn_18 hl (k := 2) rfl (by rw [ex2_3]; rfl) (by decide) rfl (fun ls hl => ?_)
    refine lv_goto (tgt := 4) hx hb dX12_bitsIn_21 (by decide) ?_
    exact ih x1_2 x2_3 hf _ _ hP hD hS ls (lv_sub hl [2, 1, 0] rfl)

def f_X12_bitsIn (x0 : Int32) : Option ((Int32)) :=
  f_X12_bitsIn_4 x0 FU (0 : Int32) (0 : Int32)

set_option maxRecDepth 100000 in
set_option maxHeartbeats 4000000 in
theorem ct_X12_bitsIn (l : Launch) (D : va_G) (cA : Nat → ClassId) (x0 : Int32) (o_r : Int32) (hf : f_X12_bitsIn x0 = some o_r) : CT l yX12_bitsIn wsX12_bitsIn rm_X12_bitsIn D cA [.int x0] (w_X12_bitsIn  cA ) (w_X12_bitsIn  cA ) (some (.int o_r)) := by
  refine CT.ofW (cc := cX12_bitsIn) (maxL := 3) (ret := (some .int)) (by decide +kernel) rfl (Nat.le_of_ble_eq_true rfl) ?_
  intro p e s m below meth c A C0 hA hP hD ls hl
  have C0 : MX p s m [.int x0].toArray meth c cX12_bitsIn 3 wsX12_bitsIn RX12 (some .int) D cA := C0
  have hl : lv_has ls 3 [(0, .int x0)] := hl
  obtain ⟨hx, hb, hml, hown, hts, hr, hlocks, hX⟩ := id C0
  have hK := hX.1
  have hN := hX.2
  have hS : va_S A s.heap s.heap [] := va_S.rf
  unfold f_X12_bitsIn at hf
  refine lv_iconst (v := (0 : Int32)) hx hb dX12_bitsIn_0 (by decide) ?_
  refine lv_istore_n (lv' := [(1, .int (0 : Int32)), (0, .int x0)]) hx hb dX12_bitsIn_1 rfl hl (by decide) rfl (fun ls hl => ?_)
  refine lv_iconst (v := (0 : Int32)) hx hb dX12_bitsIn_2 (by decide) ?_
  refine lv_istore_n (lv' := [(2, .int (0 : Int32)), (1, .int (0 : Int32)), (0, .int x0)]) hx hb dX12_bitsIn_3 rfl hl (by decide) rfl (fun ls hl => ?_)
  exact k_X12_bitsIn_4 C0 hA FU (0 : Int32) (0 : Int32) hf _ _ hP hD hS ls (lv_sub hl [2, 1, 0] rfl)

/-! ===== OrphanWaveModel.joined(I)I ===== -/
abbrev rm_X12_joined : Room := { frames := 2, cells := 0, slots := 0, locals := 45 }
abbrev w_X12_joined (a0 : Nat) (q_sheets : Nat) (q_oldest : Nat) (q_youngest : Nat) (q_marsh : Nat) (q_text : Nat) (q_depths : Nat) (q_tune : Nat) (q_far : Nat) (q_books : Nat) (q_told : Nat) (q_years : Nat) (q_months : Nat) (q_ring : Nat) (q_woods : Nat) (q_ends : Nat) (q_wood : Nat) (q_knowns : Nat) (q_known : Nat) (q_weight : Nat) (q_chance : Nat) (q_digs : Nat) (q_draft : Nat) (q_isKept : Nat) (cA : Nat → ClassId) (s_trace : Int64) (s_typed : Int32) (s_earliest : Int32) (s_latest : Int32) (s_firstYear : Int32) (s_rings : Int32) (s_sheets : Nat → Int32) (s_oldest : Nat → Int32) (s_youngest : Nat → Int32) (s_marsh : Nat → Int32) : va_W := [(a0, .inr (12, [.long s_trace, .ref q_text, .int s_typed, .ref q_depths, .ref q_tune, .ref q_far, .ref q_books, .ref q_told, .int s_earliest, .int s_latest, .ref q_years, .ref q_months, .int s_firstYear, .int s_rings, .ref q_ring, .ref q_woods, .ref q_ends, .ref q_wood, .ref q_sheets, .ref q_marsh, .ref q_oldest, .ref q_youngest, .ref q_knowns, .ref q_known, .ref q_weight, .ref q_chance, .ref q_digs, .ref q_draft, .ref q_isKept])), (q_sheets, .inl (cA 1, 3, .inl s_sheets)), (q_oldest, .inl (cA 1, 36, .inl s_oldest)), (q_youngest, .inl (cA 1, 36, .inl s_youngest)), (q_marsh, .inl (cA 1, 36, .inl s_marsh))]

def f_X12_joined (x1 : Int32) (s_sheets : Nat → Int32) (s_oldest : Nat → Int32) (s_youngest : Nat → Int32) (s_marsh : Nat → Int32) : Option ((Int32)) :=
  pcl (f_X12_in x1 (0 : Int32) (9999 : Int32)) (fun r_1 => (
  pbr (r_1 = 0)
    (some ((-1 : Int32)))
    (pcl (f_X12_joinedBy x1 s_sheets s_oldest s_youngest s_marsh) (fun r_4 => (
    some (r_4))))))

set_option maxRecDepth 100000 in
set_option maxHeartbeats 4000000 in
theorem ct_X12_joined (l : Launch) (D : va_G) (cA : Nat → ClassId) (x1 : Int32) (a0 : Nat) (q_sheets : Nat) (q_oldest : Nat) (q_youngest : Nat) (q_marsh : Nat) (q_text : Nat) (q_depths : Nat) (q_tune : Nat) (q_far : Nat) (q_books : Nat) (q_told : Nat) (q_years : Nat) (q_months : Nat) (q_ring : Nat) (q_woods : Nat) (q_ends : Nat) (q_wood : Nat) (q_knowns : Nat) (q_known : Nat) (q_weight : Nat) (q_chance : Nat) (q_digs : Nat) (q_draft : Nat) (q_isKept : Nat) (s_trace : Int64) (s_typed : Int32) (s_earliest : Int32) (s_latest : Int32) (s_firstYear : Int32) (s_rings : Int32) (s_sheets : Nat → Int32) (s_oldest : Nat → Int32) (s_youngest : Nat → Int32) (s_marsh : Nat → Int32) (o_r : Int32) (hf : f_X12_joined x1 s_sheets s_oldest s_youngest s_marsh = some o_r) : CT l yX12_joined wsX12_joined rm_X12_joined D cA [.ref a0, .int x1] (w_X12_joined a0 q_sheets q_oldest q_youngest q_marsh q_text q_depths q_tune q_far q_books q_told q_years q_months q_ring q_woods q_ends q_wood q_knowns q_known q_weight q_chance q_digs q_draft q_isKept cA s_trace s_typed s_earliest s_latest s_firstYear s_rings s_sheets s_oldest s_youngest s_marsh) (w_X12_joined a0 q_sheets q_oldest q_youngest q_marsh q_text q_depths q_tune q_far q_books q_told q_years q_months q_ring q_woods q_ends q_wood q_knowns q_known q_weight q_chance q_digs q_draft q_isKept cA s_trace s_typed s_earliest s_latest s_firstYear s_rings s_sheets s_oldest s_youngest s_marsh) (some (.int o_r)) := by
  refine CT.ofW (cc := cX12_joined) (maxL := 2) (ret := (some .int)) (by decide +kernel) rfl (Nat.le_of_ble_eq_true rfl) ?_
  intro p e s m below meth c A C0 hA hP hD ls hl
  have C0 : MX p s m [.ref a0, .int x1].toArray meth c cX12_joined 2 wsX12_joined RX12 (some .int) D cA := C0
  have hl : lv_has ls 2 [(0, .ref a0), (1, .int x1)] := hl
  obtain ⟨hx, hb, hml, hown, hts, hr, hlocks, hX⟩ := id C0
  have hK := hX.1
  have hN := hX.2
  have hS : va_S A s.heap s.heap [] := va_S.rf
  unfold f_X12_joined at hf
  refine lv_iload_n hx hb dX12_joined_0 rfl (lv_at hl 1 rfl) ?_
  refine lv_iconst (v := (0 : Int32)) hx hb dX12_joined_1 (by decide) ?_
  refine lv_sipush (v := (9999 : Int32)) hx hb dX12_joined_2 (by decide) ?_
  obtain ⟨r_1, hc_2, hf⟩ := pcl_e hf
  refine m_callS2 (As := [.int x1, .int (0 : Int32), .int (9999 : Int32)]) (rest := []) ⟨hx, hb, hml, hown, hts⟩ hX (ct_X12_in l D cA x1 (0 : Int32) (9999 : Int32) r_1 hc_2) (va_cwS 3 hts gX12_joined_X12_in rfl rfl rfl (by decide +kernel) ⟨Nat.le_of_ble_eq_true rfl, Nat.le_of_ble_eq_true rfl⟩) hP hD hS hA [] [0, 1, 2, 3, 4] 5 (by decide) rfl rfl (WS' := (w_X12_joined a0 q_sheets q_oldest q_youngest q_marsh q_text q_depths q_tune q_far q_books q_told q_years q_months q_ring q_woods q_ends q_wood q_knowns q_known q_weight q_chance q_digs q_draft q_isKept cA s_trace s_typed s_earliest s_latest s_firstYear s_rings s_sheets s_oldest s_youngest s_marsh)) (WR := [(a0, .inr (12, [.long s_trace, .ref q_text, .int s_typed, .ref q_depths, .ref q_tune, .ref q_far, .ref q_books, .ref q_told, .int s_earliest, .int s_latest, .ref q_years, .ref q_months, .int s_firstYear, .int s_rings, .ref q_ring, .ref q_woods, .ref q_ends, .ref q_wood, .ref q_sheets, .ref q_marsh, .ref q_oldest, .ref q_youngest, .ref q_knowns, .ref q_known, .ref q_weight, .ref q_chance, .ref q_digs, .ref q_draft, .ref q_isKept])), (q_sheets, .inl (cA 1, 3, .inl s_sheets)), (q_oldest, .inl (cA 1, 36, .inl s_oldest)), (q_youngest, .inl (cA 1, 36, .inl s_youngest)), (q_marsh, .inl (cA 1, 36, .inl s_marsh))]) rfl rfl rfl rfl (by decide) (by decide) rfl hl.1 rfl (st' := [.int r_1]) rfl (Nat.le_of_ble_eq_true rfl) ⟨Nat.zero_le _, Nat.zero_le _⟩ dX12_joined_5 (fun H locs hP hD hS => ?_)
  refine lv_if_eq (tgt := 19) hx hb dX12_joined_8 (by decide) (fun c_3 => ?_) (fun c_3 => ?_)
  · have hf := pbr_t c_3 hf
    refine lv_iconst (v := (-1 : Int32)) hx hb dX12_joined_19 (by decide) ?_
    obtain rfl := pe1 hf
    exact m_iret hx hb hr hlocks hP hS dX12_joined_20
  have hf := pbr_f c_3 hf
  refine lv_aload_n hx hb dX12_joined_11 rfl (lv_at hl 0 rfl) ?_
  refine lv_iload_n hx hb dX12_joined_12 rfl (lv_at hl 1 rfl) ?_
  obtain ⟨r_4, hc_5, hf⟩ := pcl_e hf
  refine m_callV2 (As := [.int x1]) (rest := []) ⟨hx, hb, hml, hown, hts⟩ hX (ct_X12_joinedBy l D cA x1 a0 q_sheets q_oldest q_youngest q_marsh q_text q_depths q_tune q_far q_books q_told q_years q_months q_ring q_woods q_ends q_wood q_knowns q_known q_weight q_chance q_digs q_draft q_isKept s_trace s_typed s_earliest s_latest s_firstYear s_rings s_sheets s_oldest s_youngest s_marsh r_4 hc_5) (cwV 1 hts gX12_joined_X12_joinedBy rfl rfl rfl (by decide +kernel) ⟨Nat.le_of_ble_eq_true rfl, Nat.le_of_ble_eq_true rfl⟩) hP hD hS hA [0, 1, 2, 3, 4] [] 5 (by decide) rfl rfl (WS' := (w_X12_joined a0 q_sheets q_oldest q_youngest q_marsh q_text q_depths q_tune q_far q_books q_told q_years q_months q_ring q_woods q_ends q_wood q_knowns q_known q_weight q_chance q_digs q_draft q_isKept cA s_trace s_typed s_earliest s_latest s_firstYear s_rings s_sheets s_oldest s_youngest s_marsh)) (WR := []) rfl rfl rfl rfl (by decide) (by decide) 0 12 rfl rfl rfl hl.1 rfl (st' := [.int r_4]) rfl (Nat.le_of_ble_eq_true rfl) ⟨Nat.zero_le _, Nat.zero_le _⟩ dX12_joined_13 (fun H locs hP hD hS => ?_)
  refine lv_goto (tgt := 20) hx hb dX12_joined_16 (by decide) ?_
  obtain rfl := pe1 hf
  exact m_iret hx hb hr hlocks hP hS dX12_joined_20

/-! ===== OrphanWaveModel.whole(I)I ===== -/
abbrev rm_X12_whole : Room := { frames := 2, cells := 0, slots := 0, locals := 45 }
abbrev w_X12_whole (a0 : Nat) (q_sheets : Nat) (q_oldest : Nat) (q_youngest : Nat) (q_marsh : Nat) (q_text : Nat) (q_depths : Nat) (q_tune : Nat) (q_far : Nat) (q_books : Nat) (q_told : Nat) (q_years : Nat) (q_months : Nat) (q_ring : Nat) (q_woods : Nat) (q_ends : Nat) (q_wood : Nat) (q_knowns : Nat) (q_known : Nat) (q_weight : Nat) (q_chance : Nat) (q_digs : Nat) (q_draft : Nat) (q_isKept : Nat) (cA : Nat → ClassId) (s_trace : Int64) (s_typed : Int32) (s_earliest : Int32) (s_latest : Int32) (s_firstYear : Int32) (s_rings : Int32) (s_sheets : Nat → Int32) (s_oldest : Nat → Int32) (s_youngest : Nat → Int32) (s_marsh : Nat → Int32) : va_W := [(a0, .inr (12, [.long s_trace, .ref q_text, .int s_typed, .ref q_depths, .ref q_tune, .ref q_far, .ref q_books, .ref q_told, .int s_earliest, .int s_latest, .ref q_years, .ref q_months, .int s_firstYear, .int s_rings, .ref q_ring, .ref q_woods, .ref q_ends, .ref q_wood, .ref q_sheets, .ref q_marsh, .ref q_oldest, .ref q_youngest, .ref q_knowns, .ref q_known, .ref q_weight, .ref q_chance, .ref q_digs, .ref q_draft, .ref q_isKept])), (q_sheets, .inl (cA 1, 3, .inl s_sheets)), (q_oldest, .inl (cA 1, 36, .inl s_oldest)), (q_youngest, .inl (cA 1, 36, .inl s_youngest)), (q_marsh, .inl (cA 1, 36, .inl s_marsh))]
theorem hn_X12_whole_X12 : ∀ w ∈ u_ws RX12 TX12 29, w ∈ wsX12_whole := by decide +kernel
theorem hw_X12_whole_f47 : Cond.fieldLink RX12 47 "OrphanWaveModel" "sheets" "[I" ∈ wsX12_whole := by decide +kernel
theorem hw_X12_whole_f53 : Cond.fieldLink RX12 53 "OrphanWaveModel" "oldest" "[I" ∈ wsX12_whole := by decide +kernel

def f_X12_whole_92 (r19 : (Int32) → (Int32) → (Int32) → Option ((Int32))) (s_sheets : Nat → Int32) (s_oldest : Nat → Int32) (s_youngest : Nat → Int32) (s_marsh : Nat → Int32) (x1 : Int32) (x3 : Int32) (x4 : Int32) (x5 : Int32) (x6 : Int32) (z0 : Int32) : Option ((Int32)) :=
  pbr (x6 = 0)
    (plt (x4 + (1 : Int32) : Int32) (fun x4_2 => (
    r19 z0 x3 x4_2)))
    (plt (x4 + (1 : Int32) : Int32) (fun x4_3 => (
    r19 z0 x5 x4_3)))

set_option maxRecDepth 100000 in
set_option maxHeartbeats 4000000 in
theorem k_X12_whole_92 {p : Program} {l : Launch} {e : Env} {s : State} {m : MethodId} {args : Array Value} {below : List Frame} {meth : Method} {c : Code} {A : Nat → Prop} {D : va_G} {cA : Nat → ClassId} (C0 : MX p s m args meth c cX12_whole 7 wsX12_whole RX12 (some .int) D cA) (hA : ∀ q, s.heap.size ≤ q → A q) {a0 : Nat} {q_sheets : Nat} {q_oldest : Nat} {q_youngest : Nat} {q_marsh : Nat} {q_text : Nat} {q_depths : Nat} {q_tune : Nat} {q_far : Nat} {q_books : Nat} {q_told : Nat} {q_years : Nat} {q_months : Nat} {q_ring : Nat} {q_woods : Nat} {q_ends : Nat} {q_wood : Nat} {q_knowns : Nat} {q_known : Nat} {q_weight : Nat} {q_chance : Nat} {q_digs : Nat} {q_draft : Nat} {q_isKept : Nat} {s_trace : Int64} {s_typed : Int32} {s_earliest : Int32} {s_latest : Int32} {s_firstYear : Int32} {s_rings : Int32} {s_sheets : Nat → Int32} {s_oldest : Nat → Int32} {s_youngest : Nat → Int32} {s_marsh : Nat → Int32} {x1 : Int32} {o_r : Int32} {r19 : (Int32) → (Int32) → (Int32) → Option ((Int32))} (hr19 : ∀ (x2 : Int32) (x3 : Int32) (x4 : Int32), r19 x2 x3 x4 = some o_r → ∀ (H : Heap) (locs : List Loc), va_P D vwCl (w_X12_whole a0 q_sheets q_oldest q_youngest q_marsh q_text q_depths q_tune q_far q_books q_told q_years q_months q_ring q_woods q_ends q_wood q_knowns q_known q_weight q_chance q_digs q_draft q_isKept cA s_trace s_typed s_earliest s_latest s_firstYear s_rings s_sheets s_oldest s_youngest s_marsh) H → va_D A (w_X12_whole a0 q_sheets q_oldest q_youngest q_marsh q_text q_depths q_tune q_far q_books q_told q_years q_months q_ring q_woods q_ends q_wood q_knowns q_known q_weight q_chance q_digs q_draft q_isKept cA s_trace s_typed s_earliest s_latest s_firstYear s_rings s_sheets s_oldest s_youngest s_marsh) → va_S A s.heap H locs → ∀ ls : Array Slot, lv_has ls 7 [(0, .ref a0), (1, .int x1), (2, .int x2), (3, .int x3), (4, .int x4)] → W p l e rm_X12_whole s m args below meth c H locs 0 0 (MQ below (CQ D (some (.int o_r)) (w_X12_whole a0 q_sheets q_oldest q_youngest q_marsh q_text q_depths q_tune q_far q_books q_told q_years q_months q_ring q_woods q_ends q_wood q_knowns q_known q_weight q_chance q_digs q_draft q_isKept cA s_trace s_typed s_earliest s_latest s_firstYear s_rings s_sheets s_oldest s_youngest s_marsh) A) args s 0 0 A) (F0 m 19 ls [])) : ∀ (x3 : Int32) (x4 : Int32) (x5 : Int32) (x6 : Int32) (z0 : Int32), f_X12_whole_92 r19 s_sheets s_oldest s_youngest s_marsh x1 x3 x4 x5 x6 z0 = some o_r → ∀ (H : Heap) (locs : List Loc), va_P D vwCl (w_X12_whole a0 q_sheets q_oldest q_youngest q_marsh q_text q_depths q_tune q_far q_books q_told q_years q_months q_ring q_woods q_ends q_wood q_knowns q_known q_weight q_chance q_digs q_draft q_isKept cA s_trace s_typed s_earliest s_latest s_firstYear s_rings s_sheets s_oldest s_youngest s_marsh) H → va_D A (w_X12_whole a0 q_sheets q_oldest q_youngest q_marsh q_text q_depths q_tune q_far q_books q_told q_years q_months q_ring q_woods q_ends q_wood q_knowns q_known q_weight q_chance q_digs q_draft q_isKept cA s_trace s_typed s_earliest s_latest s_firstYear s_rings s_sheets s_oldest s_youngest s_marsh) → va_S A s.heap H locs → ∀ ls : Array Slot, lv_has ls 7 [(0, .ref a0), (1, .int x1), (3, .int x3), (4, .int x4), (5, .int x5), (6, .int x6)] → W p l e rm_X12_whole s m args below meth c H locs 0 0 (MQ below (CQ D (some (.int o_r)) (w_X12_whole a0 q_sheets q_oldest q_youngest q_marsh q_text q_depths q_tune q_far q_books q_told q_years q_months q_ring q_woods q_ends q_wood q_knowns q_known q_weight q_chance q_digs q_draft q_isKept cA s_trace s_typed s_earliest s_latest s_firstYear s_rings s_sheets s_oldest s_youngest s_marsh) A) args s 0 0 A) (F0 m 92 ls [.int z0]) := by
  obtain ⟨hx, hb, hml, hown, hts, hr, hlocks, hX⟩ := C0
  have hK := hX.1
  have hN := hX.2
  intro x3 x4 x5 x6 z0 hf H locs hP hD hS ls hl
  unfold f_X12_whole_92 at hf
  refine lv_istore_n (lv' := [(2, .int z0), (0, .ref a0), (1, .int x1), (3, .int x3), (4, .int x4), (5, .int x5), (6, .int x6)]) hx hb dX12_whole_92 rfl hl (by decide) rfl (fun ls hl => ?_)
  refine lv_iload hx hb dX12_whole_93 (lv_at hl 6 rfl) ?_
  refine lv_if_eq (tgt := 103) hx hb dX12_whole_95 (by decide) (fun c_1 => ?_) (fun c_1 => ?_)
  · have hf := pbr_t c_1 hf
    refine lv_iload_n hx hb dX12_whole_103 rfl (lv_at hl 3 rfl) ?_
    refine lv_istore_n (lv' := [(3, .int x3), (2, .int z0), (0, .ref a0), (1, .int x1), (4, .int x4), (5, .int x5), (6, .int x6)]) hx hb dX12_whole_104 rfl hl (by decide) rfl (fun ls hl => ?_)
    obtain ⟨x4_2, ex4_2⟩ : ∃ z : Int32, z = x4 + (1 : Int32) := ⟨_, rfl⟩
    have hf := plt_e ex4_2 hf
    refine lv_iinc (v := x4_2) (lv' := [(4, .int x4_2), (3, .int x3), (2, .int z0), (0, .ref a0), (1, .int x1), (5, .int x5), (6, .int x6)]) hx hb dX12_whole_105 hl (k := 4) rfl (by rw [ex4_2]; rfl) (by decide) rfl (fun ls hl => ?_)
    refine lv_goto (tgt := 19) hx hb dX12_whole_108 (by decide) ?_
    exact hr19 z0 x3 x4_2 hf _ _ hP hD hS ls (lv_sub hl [3, 4, 2, 1, 0] rfl)
  have hf := pbr_f c_1 hf
  refine lv_iload hx hb dX12_whole_98 (lv_at hl 5 rfl) ?_
  refine lv_goto (tgt := 104) hx hb dX12_whole_100 (by decide) ?_
  refine lv_istore_n (lv' := [(3, .int x5), (2, .int z0), (0, .ref a0), (1, .int x1), (4, .int x4), (5, .int x5), (6, .int x6)]) hx hb dX12_whole_104 rfl hl (by decide) rfl (fun ls hl => ?_)
  obtain ⟨x4_3, ex4_3⟩ : ∃ z : Int32, z = x4 + (1 : Int32) := ⟨_, rfl⟩
  have hf := plt_e ex4_3 hf
  refine lv_iinc (v := x4_3) (lv' := [(4, .int x4_3), (3, .int x5), (2, .int z0), (0, .ref a0), (1, .int x1), (5, .int x5), (6, .int x6)]) hx hb dX12_whole_105 hl (k := 4) rfl (by rw [ex4_3]; rfl) (by decide) rfl (fun ls hl => ?_)
  refine lv_goto (tgt := 19) hx hb dX12_whole_108 (by decide) ?_
  exact hr19 z0 x5 x4_3 hf _ _ hP hD hS ls (lv_sub hl [3, 4, 2, 1, 0] rfl)

def f_X12_whole_74 (r19 : (Int32) → (Int32) → (Int32) → Option ((Int32))) (s_sheets : Nat → Int32) (s_oldest : Nat → Int32) (s_youngest : Nat → Int32) (s_marsh : Nat → Int32) (x1 : Int32) (x2 : Int32) (x3 : Int32) (x4 : Int32) (x5 : Int32) (z0 : Int32) : Option ((Int32)) :=
  pbr (z0 = 0)
    (f_X12_whole_92 r19 s_sheets s_oldest s_youngest s_marsh x1 x3 x4 x5 z0 x2)
    (pgd (pin x4 36) (
    f_X12_whole_92 r19 s_sheets s_oldest s_youngest s_marsh x1 x3 x4 x5 z0 (s_oldest x4.toNatClampNeg)))

set_option maxRecDepth 100000 in
set_option maxHeartbeats 4000000 in
theorem k_X12_whole_74 {p : Program} {l : Launch} {e : Env} {s : State} {m : MethodId} {args : Array Value} {below : List Frame} {meth : Method} {c : Code} {A : Nat → Prop} {D : va_G} {cA : Nat → ClassId} (C0 : MX p s m args meth c cX12_whole 7 wsX12_whole RX12 (some .int) D cA) (hA : ∀ q, s.heap.size ≤ q → A q) {a0 : Nat} {q_sheets : Nat} {q_oldest : Nat} {q_youngest : Nat} {q_marsh : Nat} {q_text : Nat} {q_depths : Nat} {q_tune : Nat} {q_far : Nat} {q_books : Nat} {q_told : Nat} {q_years : Nat} {q_months : Nat} {q_ring : Nat} {q_woods : Nat} {q_ends : Nat} {q_wood : Nat} {q_knowns : Nat} {q_known : Nat} {q_weight : Nat} {q_chance : Nat} {q_digs : Nat} {q_draft : Nat} {q_isKept : Nat} {s_trace : Int64} {s_typed : Int32} {s_earliest : Int32} {s_latest : Int32} {s_firstYear : Int32} {s_rings : Int32} {s_sheets : Nat → Int32} {s_oldest : Nat → Int32} {s_youngest : Nat → Int32} {s_marsh : Nat → Int32} {x1 : Int32} {o_r : Int32} {r19 : (Int32) → (Int32) → (Int32) → Option ((Int32))} (hr19 : ∀ (x2 : Int32) (x3 : Int32) (x4 : Int32), r19 x2 x3 x4 = some o_r → ∀ (H : Heap) (locs : List Loc), va_P D vwCl (w_X12_whole a0 q_sheets q_oldest q_youngest q_marsh q_text q_depths q_tune q_far q_books q_told q_years q_months q_ring q_woods q_ends q_wood q_knowns q_known q_weight q_chance q_digs q_draft q_isKept cA s_trace s_typed s_earliest s_latest s_firstYear s_rings s_sheets s_oldest s_youngest s_marsh) H → va_D A (w_X12_whole a0 q_sheets q_oldest q_youngest q_marsh q_text q_depths q_tune q_far q_books q_told q_years q_months q_ring q_woods q_ends q_wood q_knowns q_known q_weight q_chance q_digs q_draft q_isKept cA s_trace s_typed s_earliest s_latest s_firstYear s_rings s_sheets s_oldest s_youngest s_marsh) → va_S A s.heap H locs → ∀ ls : Array Slot, lv_has ls 7 [(0, .ref a0), (1, .int x1), (2, .int x2), (3, .int x3), (4, .int x4)] → W p l e rm_X12_whole s m args below meth c H locs 0 0 (MQ below (CQ D (some (.int o_r)) (w_X12_whole a0 q_sheets q_oldest q_youngest q_marsh q_text q_depths q_tune q_far q_books q_told q_years q_months q_ring q_woods q_ends q_wood q_knowns q_known q_weight q_chance q_digs q_draft q_isKept cA s_trace s_typed s_earliest s_latest s_firstYear s_rings s_sheets s_oldest s_youngest s_marsh) A) args s 0 0 A) (F0 m 19 ls [])) : ∀ (x2 : Int32) (x3 : Int32) (x4 : Int32) (x5 : Int32) (z0 : Int32), f_X12_whole_74 r19 s_sheets s_oldest s_youngest s_marsh x1 x2 x3 x4 x5 z0 = some o_r → ∀ (H : Heap) (locs : List Loc), va_P D vwCl (w_X12_whole a0 q_sheets q_oldest q_youngest q_marsh q_text q_depths q_tune q_far q_books q_told q_years q_months q_ring q_woods q_ends q_wood q_knowns q_known q_weight q_chance q_digs q_draft q_isKept cA s_trace s_typed s_earliest s_latest s_firstYear s_rings s_sheets s_oldest s_youngest s_marsh) H → va_D A (w_X12_whole a0 q_sheets q_oldest q_youngest q_marsh q_text q_depths q_tune q_far q_books q_told q_years q_months q_ring q_woods q_ends q_wood q_knowns q_known q_weight q_chance q_digs q_draft q_isKept cA s_trace s_typed s_earliest s_latest s_firstYear s_rings s_sheets s_oldest s_youngest s_marsh) → va_S A s.heap H locs → ∀ ls : Array Slot, lv_has ls 7 [(0, .ref a0), (1, .int x1), (2, .int x2), (3, .int x3), (4, .int x4), (5, .int x5)] → W p l e rm_X12_whole s m args below meth c H locs 0 0 (MQ below (CQ D (some (.int o_r)) (w_X12_whole a0 q_sheets q_oldest q_youngest q_marsh q_text q_depths q_tune q_far q_books q_told q_years q_months q_ring q_woods q_ends q_wood q_knowns q_known q_weight q_chance q_digs q_draft q_isKept cA s_trace s_typed s_earliest s_latest s_firstYear s_rings s_sheets s_oldest s_youngest s_marsh) A) args s 0 0 A) (F0 m 74 ls [.int z0]) := by
  obtain ⟨hx, hb, hml, hown, hts, hr, hlocks, hX⟩ := C0
  have hK := hX.1
  have hN := hX.2
  intro x2 x3 x4 x5 z0 hf H locs hP hD hS ls hl
  unfold f_X12_whole_74 at hf
  refine lv_istore (lv' := [(6, .int z0), (0, .ref a0), (1, .int x1), (2, .int x2), (3, .int x3), (4, .int x4), (5, .int x5)]) hx hb dX12_whole_74 hl (by decide) rfl (fun ls hl => ?_)
  refine lv_iload hx hb dX12_whole_76 (lv_at hl 0 rfl) ?_
  refine lv_if_eq (tgt := 91) hx hb dX12_whole_78 (by decide) (fun c_1 => ?_) (fun c_1 => ?_)
  · have hf := pbr_t c_1 hf
    refine lv_iload_n hx hb dX12_whole_91 rfl (lv_at hl 3 rfl) ?_
    exact k_X12_whole_92 ⟨hx, hb, hml, hown, hts, hr, hlocks, hX⟩ hA hr19 x3 x4 x5 z0 x2 hf _ _ hP hD hS ls (lv_sub hl [1, 2, 4, 5, 6, 0] rfl)
  have hf := pbr_f c_1 hf
  refine lv_aload_n hx hb dX12_whole_81 rfl (lv_at hl 1 rfl) ?_
  refine va_get (D := D) (ci := 12) (v := .ref q_oldest) (C := RX12) (T := TX12) (N := 29) hx hb hts hn_X12_whole_X12 hown hK hP 0 rfl rfl 20 (by decide) (hts _ hw_X12_whole_f53) (fun _ h9 => h9) rfl dX12_whole_82 ?_
  refine lv_iload hx hb dX12_whole_85 (lv_at hl 5 rfl) ?_
  obtain ⟨g_2, hf⟩ := pgd_e hf
  refine va_iald hx hb hK hP 2 1 rfl rfl g_2 dX12_whole_87 ?_
  refine lv_goto (tgt := 92) hx hb dX12_whole_88 (by decide) ?_
  exact k_X12_whole_92 ⟨hx, hb, hml, hown, hts, hr, hlocks, hX⟩ hA hr19 x3 x4 x5 z0 (s_oldest x4.toNatClampNeg) hf _ _ hP hD hS ls (lv_sub hl [1, 2, 4, 5, 6, 0] rfl)

def f_X12_whole_73 (r19 : (Int32) → (Int32) → (Int32) → Option ((Int32))) (s_sheets : Nat → Int32) (s_oldest : Nat → Int32) (s_youngest : Nat → Int32) (s_marsh : Nat → Int32) (x1 : Int32) (x2 : Int32) (x3 : Int32) (x4 : Int32) (x5 : Int32) : Option ((Int32)) :=
  f_X12_whole_74 r19 s_sheets s_oldest s_youngest s_marsh x1 x2 x3 x4 x5 (0 : Int32)

set_option maxRecDepth 100000 in
set_option maxHeartbeats 4000000 in
theorem k_X12_whole_73 {p : Program} {l : Launch} {e : Env} {s : State} {m : MethodId} {args : Array Value} {below : List Frame} {meth : Method} {c : Code} {A : Nat → Prop} {D : va_G} {cA : Nat → ClassId} (C0 : MX p s m args meth c cX12_whole 7 wsX12_whole RX12 (some .int) D cA) (hA : ∀ q, s.heap.size ≤ q → A q) {a0 : Nat} {q_sheets : Nat} {q_oldest : Nat} {q_youngest : Nat} {q_marsh : Nat} {q_text : Nat} {q_depths : Nat} {q_tune : Nat} {q_far : Nat} {q_books : Nat} {q_told : Nat} {q_years : Nat} {q_months : Nat} {q_ring : Nat} {q_woods : Nat} {q_ends : Nat} {q_wood : Nat} {q_knowns : Nat} {q_known : Nat} {q_weight : Nat} {q_chance : Nat} {q_digs : Nat} {q_draft : Nat} {q_isKept : Nat} {s_trace : Int64} {s_typed : Int32} {s_earliest : Int32} {s_latest : Int32} {s_firstYear : Int32} {s_rings : Int32} {s_sheets : Nat → Int32} {s_oldest : Nat → Int32} {s_youngest : Nat → Int32} {s_marsh : Nat → Int32} {x1 : Int32} {o_r : Int32} {r19 : (Int32) → (Int32) → (Int32) → Option ((Int32))} (hr19 : ∀ (x2 : Int32) (x3 : Int32) (x4 : Int32), r19 x2 x3 x4 = some o_r → ∀ (H : Heap) (locs : List Loc), va_P D vwCl (w_X12_whole a0 q_sheets q_oldest q_youngest q_marsh q_text q_depths q_tune q_far q_books q_told q_years q_months q_ring q_woods q_ends q_wood q_knowns q_known q_weight q_chance q_digs q_draft q_isKept cA s_trace s_typed s_earliest s_latest s_firstYear s_rings s_sheets s_oldest s_youngest s_marsh) H → va_D A (w_X12_whole a0 q_sheets q_oldest q_youngest q_marsh q_text q_depths q_tune q_far q_books q_told q_years q_months q_ring q_woods q_ends q_wood q_knowns q_known q_weight q_chance q_digs q_draft q_isKept cA s_trace s_typed s_earliest s_latest s_firstYear s_rings s_sheets s_oldest s_youngest s_marsh) → va_S A s.heap H locs → ∀ ls : Array Slot, lv_has ls 7 [(0, .ref a0), (1, .int x1), (2, .int x2), (3, .int x3), (4, .int x4)] → W p l e rm_X12_whole s m args below meth c H locs 0 0 (MQ below (CQ D (some (.int o_r)) (w_X12_whole a0 q_sheets q_oldest q_youngest q_marsh q_text q_depths q_tune q_far q_books q_told q_years q_months q_ring q_woods q_ends q_wood q_knowns q_known q_weight q_chance q_digs q_draft q_isKept cA s_trace s_typed s_earliest s_latest s_firstYear s_rings s_sheets s_oldest s_youngest s_marsh) A) args s 0 0 A) (F0 m 19 ls [])) : ∀ (x2 : Int32) (x3 : Int32) (x4 : Int32) (x5 : Int32), f_X12_whole_73 r19 s_sheets s_oldest s_youngest s_marsh x1 x2 x3 x4 x5 = some o_r → ∀ (H : Heap) (locs : List Loc), va_P D vwCl (w_X12_whole a0 q_sheets q_oldest q_youngest q_marsh q_text q_depths q_tune q_far q_books q_told q_years q_months q_ring q_woods q_ends q_wood q_knowns q_known q_weight q_chance q_digs q_draft q_isKept cA s_trace s_typed s_earliest s_latest s_firstYear s_rings s_sheets s_oldest s_youngest s_marsh) H → va_D A (w_X12_whole a0 q_sheets q_oldest q_youngest q_marsh q_text q_depths q_tune q_far q_books q_told q_years q_months q_ring q_woods q_ends q_wood q_knowns q_known q_weight q_chance q_digs q_draft q_isKept cA s_trace s_typed s_earliest s_latest s_firstYear s_rings s_sheets s_oldest s_youngest s_marsh) → va_S A s.heap H locs → ∀ ls : Array Slot, lv_has ls 7 [(0, .ref a0), (1, .int x1), (2, .int x2), (3, .int x3), (4, .int x4), (5, .int x5)] → W p l e rm_X12_whole s m args below meth c H locs 0 0 (MQ below (CQ D (some (.int o_r)) (w_X12_whole a0 q_sheets q_oldest q_youngest q_marsh q_text q_depths q_tune q_far q_books q_told q_years q_months q_ring q_woods q_ends q_wood q_knowns q_known q_weight q_chance q_digs q_draft q_isKept cA s_trace s_typed s_earliest s_latest s_firstYear s_rings s_sheets s_oldest s_youngest s_marsh) A) args s 0 0 A) (F0 m 73 ls []) := by
  obtain ⟨hx, hb, hml, hown, hts, hr, hlocks, hX⟩ := C0
  have hK := hX.1
  have hN := hX.2
  intro x2 x3 x4 x5 hf H locs hP hD hS ls hl
  unfold f_X12_whole_73 at hf
  refine lv_iconst (v := (0 : Int32)) hx hb dX12_whole_73 (by decide) ?_
  exact k_X12_whole_74 ⟨hx, hb, hml, hown, hts, hr, hlocks, hX⟩ hA hr19 x2 x3 x4 x5 (0 : Int32) hf _ _ hP hD hS ls (lv_sub hl [0, 1, 2, 3, 4, 5] rfl)

def f_X12_whole_69 (r19 : (Int32) → (Int32) → (Int32) → Option ((Int32))) (s_sheets : Nat → Int32) (s_oldest : Nat → Int32) (s_youngest : Nat → Int32) (s_marsh : Nat → Int32) (x1 : Int32) (x2 : Int32) (x3 : Int32) (x4 : Int32) (x5 : Int32) : Option ((Int32)) :=
  f_X12_whole_74 r19 s_sheets s_oldest s_youngest s_marsh x1 x2 x3 x4 x5 (1 : Int32)

set_option maxRecDepth 100000 in
set_option maxHeartbeats 4000000 in
theorem k_X12_whole_69 {p : Program} {l : Launch} {e : Env} {s : State} {m : MethodId} {args : Array Value} {below : List Frame} {meth : Method} {c : Code} {A : Nat → Prop} {D : va_G} {cA : Nat → ClassId} (C0 : MX p s m args meth c cX12_whole 7 wsX12_whole RX12 (some .int) D cA) (hA : ∀ q, s.heap.size ≤ q → A q) {a0 : Nat} {q_sheets : Nat} {q_oldest : Nat} {q_youngest : Nat} {q_marsh : Nat} {q_text : Nat} {q_depths : Nat} {q_tune : Nat} {q_far : Nat} {q_books : Nat} {q_told : Nat} {q_years : Nat} {q_months : Nat} {q_ring : Nat} {q_woods : Nat} {q_ends : Nat} {q_wood : Nat} {q_knowns : Nat} {q_known : Nat} {q_weight : Nat} {q_chance : Nat} {q_digs : Nat} {q_draft : Nat} {q_isKept : Nat} {s_trace : Int64} {s_typed : Int32} {s_earliest : Int32} {s_latest : Int32} {s_firstYear : Int32} {s_rings : Int32} {s_sheets : Nat → Int32} {s_oldest : Nat → Int32} {s_youngest : Nat → Int32} {s_marsh : Nat → Int32} {x1 : Int32} {o_r : Int32} {r19 : (Int32) → (Int32) → (Int32) → Option ((Int32))} (hr19 : ∀ (x2 : Int32) (x3 : Int32) (x4 : Int32), r19 x2 x3 x4 = some o_r → ∀ (H : Heap) (locs : List Loc), va_P D vwCl (w_X12_whole a0 q_sheets q_oldest q_youngest q_marsh q_text q_depths q_tune q_far q_books q_told q_years q_months q_ring q_woods q_ends q_wood q_knowns q_known q_weight q_chance q_digs q_draft q_isKept cA s_trace s_typed s_earliest s_latest s_firstYear s_rings s_sheets s_oldest s_youngest s_marsh) H → va_D A (w_X12_whole a0 q_sheets q_oldest q_youngest q_marsh q_text q_depths q_tune q_far q_books q_told q_years q_months q_ring q_woods q_ends q_wood q_knowns q_known q_weight q_chance q_digs q_draft q_isKept cA s_trace s_typed s_earliest s_latest s_firstYear s_rings s_sheets s_oldest s_youngest s_marsh) → va_S A s.heap H locs → ∀ ls : Array Slot, lv_has ls 7 [(0, .ref a0), (1, .int x1), (2, .int x2), (3, .int x3), (4, .int x4)] → W p l e rm_X12_whole s m args below meth c H locs 0 0 (MQ below (CQ D (some (.int o_r)) (w_X12_whole a0 q_sheets q_oldest q_youngest q_marsh q_text q_depths q_tune q_far q_books q_told q_years q_months q_ring q_woods q_ends q_wood q_knowns q_known q_weight q_chance q_digs q_draft q_isKept cA s_trace s_typed s_earliest s_latest s_firstYear s_rings s_sheets s_oldest s_youngest s_marsh) A) args s 0 0 A) (F0 m 19 ls [])) : ∀ (x2 : Int32) (x3 : Int32) (x4 : Int32) (x5 : Int32), f_X12_whole_69 r19 s_sheets s_oldest s_youngest s_marsh x1 x2 x3 x4 x5 = some o_r → ∀ (H : Heap) (locs : List Loc), va_P D vwCl (w_X12_whole a0 q_sheets q_oldest q_youngest q_marsh q_text q_depths q_tune q_far q_books q_told q_years q_months q_ring q_woods q_ends q_wood q_knowns q_known q_weight q_chance q_digs q_draft q_isKept cA s_trace s_typed s_earliest s_latest s_firstYear s_rings s_sheets s_oldest s_youngest s_marsh) H → va_D A (w_X12_whole a0 q_sheets q_oldest q_youngest q_marsh q_text q_depths q_tune q_far q_books q_told q_years q_months q_ring q_woods q_ends q_wood q_knowns q_known q_weight q_chance q_digs q_draft q_isKept cA s_trace s_typed s_earliest s_latest s_firstYear s_rings s_sheets s_oldest s_youngest s_marsh) → va_S A s.heap H locs → ∀ ls : Array Slot, lv_has ls 7 [(0, .ref a0), (1, .int x1), (2, .int x2), (3, .int x3), (4, .int x4), (5, .int x5)] → W p l e rm_X12_whole s m args below meth c H locs 0 0 (MQ below (CQ D (some (.int o_r)) (w_X12_whole a0 q_sheets q_oldest q_youngest q_marsh q_text q_depths q_tune q_far q_books q_told q_years q_months q_ring q_woods q_ends q_wood q_knowns q_known q_weight q_chance q_digs q_draft q_isKept cA s_trace s_typed s_earliest s_latest s_firstYear s_rings s_sheets s_oldest s_youngest s_marsh) A) args s 0 0 A) (F0 m 69 ls []) := by
  obtain ⟨hx, hb, hml, hown, hts, hr, hlocks, hX⟩ := C0
  have hK := hX.1
  have hN := hX.2
  intro x2 x3 x4 x5 hf H locs hP hD hS ls hl
  unfold f_X12_whole_69 at hf
  refine lv_iconst (v := (1 : Int32)) hx hb dX12_whole_69 (by decide) ?_
  refine lv_goto (tgt := 74) hx hb dX12_whole_70 (by decide) ?_
  exact k_X12_whole_74 ⟨hx, hb, hml, hown, hts, hr, hlocks, hX⟩ hA hr19 x2 x3 x4 x5 (1 : Int32) hf _ _ hP hD hS ls (lv_sub hl [0, 1, 2, 3, 4, 5] rfl)

def f_X12_whole_19 (s_sheets : Nat → Int32) (s_oldest : Nat → Int32) (s_youngest : Nat → Int32) (s_marsh : Nat → Int32) (x1 : Int32) : Nat → (Int32) → (Int32) → (Int32) → Option ((Int32))
  | 0, _, _, _ => none
  | k + 1, x2, x3, x4 =>
    pbr ((s_sheets (0 : Int32).toNatClampNeg) ≤ x4)
      (pbr (x2 = (-9 : Int32))
        (some (x2))
        (pbr (x1 = 0)
          (some (x2))
          (some (x3))))
      (pgd (pin x4 36) (
      pcl (f_X12_joinedBy (s_oldest x4.toNatClampNeg) s_sheets s_oldest s_youngest s_marsh) (fun r_5 => (
      pcl (f_X12_bitsIn r_5) (fun r_7 => (
      pbr (x3 < r_7)
        (f_X12_whole_69 (f_X12_whole_19 s_sheets s_oldest s_youngest s_marsh x1 k) s_sheets s_oldest s_youngest s_marsh x1 x2 x3 x4 r_7)
        (pbr (r_7 = x3)
          (pbr (x2 ≤ (s_oldest x4.toNatClampNeg))
            (f_X12_whole_73 (f_X12_whole_19 s_sheets s_oldest s_youngest s_marsh x1 k) s_sheets s_oldest s_youngest s_marsh x1 x2 x3 x4 r_7)
            (f_X12_whole_69 (f_X12_whole_19 s_sheets s_oldest s_youngest s_marsh x1 k) s_sheets s_oldest s_youngest s_marsh x1 x2 x3 x4 r_7))
          (f_X12_whole_73 (f_X12_whole_19 s_sheets s_oldest s_youngest s_marsh x1 k) s_sheets s_oldest s_youngest s_marsh x1 x2 x3 x4 r_7))))))))

set_option maxRecDepth 100000 in
set_option maxHeartbeats 4000000 in
theorem k_X12_whole_19 {p : Program} {l : Launch} {e : Env} {s : State} {m : MethodId} {args : Array Value} {below : List Frame} {meth : Method} {c : Code} {A : Nat → Prop} {D : va_G} {cA : Nat → ClassId} (C0 : MX p s m args meth c cX12_whole 7 wsX12_whole RX12 (some .int) D cA) (hA : ∀ q, s.heap.size ≤ q → A q) {a0 : Nat} {q_sheets : Nat} {q_oldest : Nat} {q_youngest : Nat} {q_marsh : Nat} {q_text : Nat} {q_depths : Nat} {q_tune : Nat} {q_far : Nat} {q_books : Nat} {q_told : Nat} {q_years : Nat} {q_months : Nat} {q_ring : Nat} {q_woods : Nat} {q_ends : Nat} {q_wood : Nat} {q_knowns : Nat} {q_known : Nat} {q_weight : Nat} {q_chance : Nat} {q_digs : Nat} {q_draft : Nat} {q_isKept : Nat} {s_trace : Int64} {s_typed : Int32} {s_earliest : Int32} {s_latest : Int32} {s_firstYear : Int32} {s_rings : Int32} {s_sheets : Nat → Int32} {s_oldest : Nat → Int32} {s_youngest : Nat → Int32} {s_marsh : Nat → Int32} {x1 : Int32} {o_r : Int32} : ∀ (k : Nat) (x2 : Int32) (x3 : Int32) (x4 : Int32), f_X12_whole_19 s_sheets s_oldest s_youngest s_marsh x1 k x2 x3 x4 = some o_r → ∀ (H : Heap) (locs : List Loc), va_P D vwCl (w_X12_whole a0 q_sheets q_oldest q_youngest q_marsh q_text q_depths q_tune q_far q_books q_told q_years q_months q_ring q_woods q_ends q_wood q_knowns q_known q_weight q_chance q_digs q_draft q_isKept cA s_trace s_typed s_earliest s_latest s_firstYear s_rings s_sheets s_oldest s_youngest s_marsh) H → va_D A (w_X12_whole a0 q_sheets q_oldest q_youngest q_marsh q_text q_depths q_tune q_far q_books q_told q_years q_months q_ring q_woods q_ends q_wood q_knowns q_known q_weight q_chance q_digs q_draft q_isKept cA s_trace s_typed s_earliest s_latest s_firstYear s_rings s_sheets s_oldest s_youngest s_marsh) → va_S A s.heap H locs → ∀ ls : Array Slot, lv_has ls 7 [(0, .ref a0), (1, .int x1), (2, .int x2), (3, .int x3), (4, .int x4)] → W p l e rm_X12_whole s m args below meth c H locs 0 0 (MQ below (CQ D (some (.int o_r)) (w_X12_whole a0 q_sheets q_oldest q_youngest q_marsh q_text q_depths q_tune q_far q_books q_told q_years q_months q_ring q_woods q_ends q_wood q_knowns q_known q_weight q_chance q_digs q_draft q_isKept cA s_trace s_typed s_earliest s_latest s_firstYear s_rings s_sheets s_oldest s_youngest s_marsh) A) args s 0 0 A) (F0 m 19 ls []) := by
  obtain ⟨hx, hb, hml, hown, hts, hr, hlocks, hX⟩ := C0
  have hK := hX.1
  have hN := hX.2
  intro k
  induction k with
  | zero =>
    intro x2 x3 x4 hf
    cases hf
  | succ k ih =>
    intro x2 x3 x4 hf H locs hP hD hS ls hl
    rw [f_X12_whole_19] at hf
    refine lv_iload hx hb dX12_whole_19 (lv_at hl 4 rfl) ?_
    refine lv_aload_n hx hb dX12_whole_21 rfl (lv_at hl 0 rfl) ?_
    refine va_get (D := D) (ci := 12) (v := .ref q_sheets) (C := RX12) (T := TX12) (N := 29) hx hb hts hn_X12_whole_X12 hown hK hP 0 rfl rfl 18 (by decide) (hts _ hw_X12_whole_f47) (fun _ h9 => h9) rfl dX12_whole_22 ?_
    refine lv_iconst (v := (0 : Int32)) hx hb dX12_whole_25 (by decide) ?_
    refine va_iald hx hb hK hP 1 1 rfl rfl (show pin (0 : Int32) 3 by decide +kernel) dX12_whole_26 ?_
    refine lv_icmp_ge (tgt := 111) hx hb dX12_whole_27 (by decide) (fun c_1 => ?_) (fun c_1 => ?_)
    · have hf := pbr_t c_1 hf
      refine lv_iload_n hx hb dX12_whole_111 rfl (lv_at hl 2 rfl) ?_
      refine lv_bipush (v := (-9 : Int32)) hx hb dX12_whole_112 (by decide) ?_
      refine lv_icmp_eq (tgt := 121) hx hb dX12_whole_114 (by decide) (fun c_2 => ?_) (fun c_2 => ?_)
      · have hf := pbr_t c_2 hf
        refine lv_iload_n hx hb dX12_whole_121 rfl (lv_at hl 2 rfl) ?_
        refine lv_goto (tgt := 126) hx hb dX12_whole_122 (by decide) ?_
        obtain rfl := pe1 hf
        exact m_iret hx hb hr hlocks hP hS dX12_whole_126
      have hf := pbr_f c_2 hf
      refine lv_iload_n hx hb dX12_whole_117 rfl (lv_at hl 1 rfl) ?_
      refine lv_if_ne (tgt := 125) hx hb dX12_whole_118 (by decide) (fun c_3 => ?_) (fun c_3 => ?_)
      · have hf := pbr_f c_3 hf
        refine lv_iload_n hx hb dX12_whole_125 rfl (lv_at hl 3 rfl) ?_
        obtain rfl := pe1 hf
        exact m_iret hx hb hr hlocks hP hS dX12_whole_126
      have hf := pbr_t c_3 hf
      refine lv_iload_n hx hb dX12_whole_121 rfl (lv_at hl 2 rfl) ?_
      refine lv_goto (tgt := 126) hx hb dX12_whole_122 (by decide) ?_
      obtain rfl := pe1 hf
      exact m_iret hx hb hr hlocks hP hS dX12_whole_126
    have hf := pbr_f c_1 hf
    refine lv_aload_n hx hb dX12_whole_30 rfl (lv_at hl 0 rfl) ?_
    refine lv_aload_n hx hb dX12_whole_31 rfl (lv_at hl 0 rfl) ?_
    refine va_get (D := D) (ci := 12) (v := .ref q_oldest) (C := RX12) (T := TX12) (N := 29) hx hb hts hn_X12_whole_X12 hown hK hP 0 rfl rfl 20 (by decide) (hts _ hw_X12_whole_f53) (fun _ h9 => h9) rfl dX12_whole_32 ?_
    refine lv_iload hx hb dX12_whole_35 (lv_at hl 4 rfl) ?_
    obtain ⟨g_4, hf⟩ := pgd_e hf
    refine va_iald hx hb hK hP 2 1 rfl rfl g_4 dX12_whole_37 ?_
    obtain ⟨r_5, hc_6, hf⟩ := pcl_e hf
    refine m_callV2 (As := [.int (s_oldest x4.toNatClampNeg)]) (rest := []) ⟨hx, hb, hml, hown, hts⟩ hX (ct_X12_joinedBy l D cA (s_oldest x4.toNatClampNeg) a0 q_sheets q_oldest q_youngest q_marsh q_text q_depths q_tune q_far q_books q_told q_years q_months q_ring q_woods q_ends q_wood q_knowns q_known q_weight q_chance q_digs q_draft q_isKept s_trace s_typed s_earliest s_latest s_firstYear s_rings s_sheets s_oldest s_youngest s_marsh r_5 hc_6) (cwV 1 hts gX12_whole_X12_joinedBy rfl rfl rfl (by decide +kernel) ⟨Nat.le_of_ble_eq_true rfl, Nat.le_of_ble_eq_true rfl⟩) hP hD hS hA [0, 1, 2, 3, 4] [] 5 (by decide) rfl rfl (WS' := (w_X12_whole a0 q_sheets q_oldest q_youngest q_marsh q_text q_depths q_tune q_far q_books q_told q_years q_months q_ring q_woods q_ends q_wood q_knowns q_known q_weight q_chance q_digs q_draft q_isKept cA s_trace s_typed s_earliest s_latest s_firstYear s_rings s_sheets s_oldest s_youngest s_marsh)) (WR := []) rfl rfl rfl rfl (by decide) (by decide) 0 12 rfl rfl rfl hl.1 rfl (st' := [.int r_5]) rfl (Nat.le_of_ble_eq_true rfl) ⟨Nat.zero_le _, Nat.zero_le _⟩ dX12_whole_38 (fun H locs hP hD hS => ?_)
    obtain ⟨r_7, hc_8, hf⟩ := pcl_e hf
    refine m_callS2 (As := [.int r_5]) (rest := []) ⟨hx, hb, hml, hown, hts⟩ hX (ct_X12_bitsIn l D cA r_5 r_7 hc_8) (va_cwS 1 hts gX12_whole_X12_bitsIn rfl rfl rfl (by decide +kernel) ⟨Nat.le_of_ble_eq_true rfl, Nat.le_of_ble_eq_true rfl⟩) hP hD hS hA [] [0, 1, 2, 3, 4] 5 (by decide) rfl rfl (WS' := (w_X12_whole a0 q_sheets q_oldest q_youngest q_marsh q_text q_depths q_tune q_far q_books q_told q_years q_months q_ring q_woods q_ends q_wood q_knowns q_known q_weight q_chance q_digs q_draft q_isKept cA s_trace s_typed s_earliest s_latest s_firstYear s_rings s_sheets s_oldest s_youngest s_marsh)) (WR := [(a0, .inr (12, [.long s_trace, .ref q_text, .int s_typed, .ref q_depths, .ref q_tune, .ref q_far, .ref q_books, .ref q_told, .int s_earliest, .int s_latest, .ref q_years, .ref q_months, .int s_firstYear, .int s_rings, .ref q_ring, .ref q_woods, .ref q_ends, .ref q_wood, .ref q_sheets, .ref q_marsh, .ref q_oldest, .ref q_youngest, .ref q_knowns, .ref q_known, .ref q_weight, .ref q_chance, .ref q_digs, .ref q_draft, .ref q_isKept])), (q_sheets, .inl (cA 1, 3, .inl s_sheets)), (q_oldest, .inl (cA 1, 36, .inl s_oldest)), (q_youngest, .inl (cA 1, 36, .inl s_youngest)), (q_marsh, .inl (cA 1, 36, .inl s_marsh))]) rfl rfl rfl rfl (by decide) (by decide) rfl hl.1 rfl (st' := [.int r_7]) rfl (Nat.le_of_ble_eq_true rfl) ⟨Nat.zero_le _, Nat.zero_le _⟩ dX12_whole_41 (fun H locs hP hD hS => ?_)
    refine lv_istore (lv' := [(5, .int r_7), (0, .ref a0), (1, .int x1), (2, .int x2), (3, .int x3), (4, .int x4)]) hx hb dX12_whole_44 hl (by decide) rfl (fun ls hl => ?_)
    refine lv_iload hx hb dX12_whole_46 (lv_at hl 0 rfl) ?_
    refine lv_iload_n hx hb dX12_whole_48 rfl (lv_at hl 4 rfl) ?_
    refine lv_icmp_gt (tgt := 69) hx hb dX12_whole_49 (by decide) (fun c_9 => ?_) (fun c_9 => ?_)
    · have hf := pbr_t c_9 hf
      exact k_X12_whole_69 ⟨hx, hb, hml, hown, hts, hr, hlocks, hX⟩ hA ih x2 x3 x4 r_7 hf _ _ hP hD hS ls (lv_sub hl [1, 2, 3, 4, 5, 0] rfl)
    have hf := pbr_f c_9 hf
    refine lv_iload hx hb dX12_whole_52 (lv_at hl 0 rfl) ?_
    refine lv_iload_n hx hb dX12_whole_54 rfl (lv_at hl 4 rfl) ?_
    refine lv_icmp_ne (tgt := 73) hx hb dX12_whole_55 (by decide) (fun c_10 => ?_) (fun c_10 => ?_)
    · have hf := pbr_f c_10 hf
      exact k_X12_whole_73 ⟨hx, hb, hml, hown, hts, hr, hlocks, hX⟩ hA ih x2 x3 x4 r_7 hf _ _ hP hD hS ls (lv_sub hl [1, 2, 3, 4, 5, 0] rfl)
    have hf := pbr_t c_10 hf
    refine lv_aload_n hx hb dX12_whole_58 rfl (lv_at hl 1 rfl) ?_
    refine va_get (D := D) (ci := 12) (v := .ref q_oldest) (C := RX12) (T := TX12) (N := 29) hx hb hts hn_X12_whole_X12 hown hK hP 0 rfl rfl 20 (by decide) (hts _ hw_X12_whole_f53) (fun _ h9 => h9) rfl dX12_whole_59 ?_
    refine lv_iload hx hb dX12_whole_62 (lv_at hl 5 rfl) ?_
    refine va_iald hx hb hK hP 2 1 rfl rfl g_4 dX12_whole_64 ?_
    refine lv_iload_n hx hb dX12_whole_65 rfl (lv_at hl 3 rfl) ?_
    refine lv_icmp_ge (tgt := 73) hx hb dX12_whole_66 (by decide) (fun c_11 => ?_) (fun c_11 => ?_)
    · have hf := pbr_t c_11 hf
      exact k_X12_whole_73 ⟨hx, hb, hml, hown, hts, hr, hlocks, hX⟩ hA ih x2 x3 x4 r_7 hf _ _ hP hD hS ls (lv_sub hl [1, 2, 3, 4, 5, 0] rfl)
    have hf := pbr_f c_11 hf
    exact k_X12_whole_69 ⟨hx, hb, hml, hown, hts, hr, hlocks, hX⟩ hA ih x2 x3 x4 r_7 hf _ _ hP hD hS ls (lv_sub hl [1, 2, 3, 4, 5, 0] rfl)

def f_X12_whole (x1 : Int32) (s_sheets : Nat → Int32) (s_oldest : Nat → Int32) (s_youngest : Nat → Int32) (s_marsh : Nat → Int32) : Option ((Int32)) :=
  pcl (f_X12_in x1 (0 : Int32) (1 : Int32)) (fun r_1 => (
  pbr (r_1 = 0)
    (some ((-1 : Int32)))
    (f_X12_whole_19 s_sheets s_oldest s_youngest s_marsh x1 FU (-9 : Int32) (0 : Int32) (0 : Int32))))

set_option maxRecDepth 100000 in
set_option maxHeartbeats 4000000 in
theorem ct_X12_whole (l : Launch) (D : va_G) (cA : Nat → ClassId) (x1 : Int32) (a0 : Nat) (q_sheets : Nat) (q_oldest : Nat) (q_youngest : Nat) (q_marsh : Nat) (q_text : Nat) (q_depths : Nat) (q_tune : Nat) (q_far : Nat) (q_books : Nat) (q_told : Nat) (q_years : Nat) (q_months : Nat) (q_ring : Nat) (q_woods : Nat) (q_ends : Nat) (q_wood : Nat) (q_knowns : Nat) (q_known : Nat) (q_weight : Nat) (q_chance : Nat) (q_digs : Nat) (q_draft : Nat) (q_isKept : Nat) (s_trace : Int64) (s_typed : Int32) (s_earliest : Int32) (s_latest : Int32) (s_firstYear : Int32) (s_rings : Int32) (s_sheets : Nat → Int32) (s_oldest : Nat → Int32) (s_youngest : Nat → Int32) (s_marsh : Nat → Int32) (o_r : Int32) (hf : f_X12_whole x1 s_sheets s_oldest s_youngest s_marsh = some o_r) : CT l yX12_whole wsX12_whole rm_X12_whole D cA [.ref a0, .int x1] (w_X12_whole a0 q_sheets q_oldest q_youngest q_marsh q_text q_depths q_tune q_far q_books q_told q_years q_months q_ring q_woods q_ends q_wood q_knowns q_known q_weight q_chance q_digs q_draft q_isKept cA s_trace s_typed s_earliest s_latest s_firstYear s_rings s_sheets s_oldest s_youngest s_marsh) (w_X12_whole a0 q_sheets q_oldest q_youngest q_marsh q_text q_depths q_tune q_far q_books q_told q_years q_months q_ring q_woods q_ends q_wood q_knowns q_known q_weight q_chance q_digs q_draft q_isKept cA s_trace s_typed s_earliest s_latest s_firstYear s_rings s_sheets s_oldest s_youngest s_marsh) (some (.int o_r)) := by
  refine CT.ofW (cc := cX12_whole) (maxL := 7) (ret := (some .int)) (by decide +kernel) rfl (Nat.le_of_ble_eq_true rfl) ?_
  intro p e s m below meth c A C0 hA hP hD ls hl
  have C0 : MX p s m [.ref a0, .int x1].toArray meth c cX12_whole 7 wsX12_whole RX12 (some .int) D cA := C0
  have hl : lv_has ls 7 [(0, .ref a0), (1, .int x1)] := hl
  obtain ⟨hx, hb, hml, hown, hts, hr, hlocks, hX⟩ := id C0
  have hK := hX.1
  have hN := hX.2
  have hS : va_S A s.heap s.heap [] := va_S.rf
  unfold f_X12_whole at hf
  refine lv_iload_n hx hb dX12_whole_0 rfl (lv_at hl 1 rfl) ?_
  refine lv_iconst (v := (0 : Int32)) hx hb dX12_whole_1 (by decide) ?_
  refine lv_iconst (v := (1 : Int32)) hx hb dX12_whole_2 (by decide) ?_
  obtain ⟨r_1, hc_2, hf⟩ := pcl_e hf
  refine m_callS2 (As := [.int x1, .int (0 : Int32), .int (1 : Int32)]) (rest := []) ⟨hx, hb, hml, hown, hts⟩ hX (ct_X12_in l D cA x1 (0 : Int32) (1 : Int32) r_1 hc_2) (va_cwS 3 hts gX12_whole_X12_in rfl rfl rfl (by decide +kernel) ⟨Nat.le_of_ble_eq_true rfl, Nat.le_of_ble_eq_true rfl⟩) hP hD hS hA [] [0, 1, 2, 3, 4] 5 (by decide) rfl rfl (WS' := (w_X12_whole a0 q_sheets q_oldest q_youngest q_marsh q_text q_depths q_tune q_far q_books q_told q_years q_months q_ring q_woods q_ends q_wood q_knowns q_known q_weight q_chance q_digs q_draft q_isKept cA s_trace s_typed s_earliest s_latest s_firstYear s_rings s_sheets s_oldest s_youngest s_marsh)) (WR := [(a0, .inr (12, [.long s_trace, .ref q_text, .int s_typed, .ref q_depths, .ref q_tune, .ref q_far, .ref q_books, .ref q_told, .int s_earliest, .int s_latest, .ref q_years, .ref q_months, .int s_firstYear, .int s_rings, .ref q_ring, .ref q_woods, .ref q_ends, .ref q_wood, .ref q_sheets, .ref q_marsh, .ref q_oldest, .ref q_youngest, .ref q_knowns, .ref q_known, .ref q_weight, .ref q_chance, .ref q_digs, .ref q_draft, .ref q_isKept])), (q_sheets, .inl (cA 1, 3, .inl s_sheets)), (q_oldest, .inl (cA 1, 36, .inl s_oldest)), (q_youngest, .inl (cA 1, 36, .inl s_youngest)), (q_marsh, .inl (cA 1, 36, .inl s_marsh))]) rfl rfl rfl rfl (by decide) (by decide) rfl hl.1 rfl (st' := [.int r_1]) rfl (Nat.le_of_ble_eq_true rfl) ⟨Nat.zero_le _, Nat.zero_le _⟩ dX12_whole_3 (fun H locs hP hD hS => ?_)
  refine lv_if_ne (tgt := 11) hx hb dX12_whole_6 (by decide) (fun c_3 => ?_) (fun c_3 => ?_)
  · have hf := pbr_f c_3 hf
    refine lv_bipush (v := (-9 : Int32)) hx hb dX12_whole_11 (by decide) ?_
    refine lv_istore_n (lv' := [(2, .int (-9 : Int32)), (0, .ref a0), (1, .int x1)]) hx hb dX12_whole_13 rfl hl (by decide) rfl (fun ls hl => ?_)
    refine lv_iconst (v := (0 : Int32)) hx hb dX12_whole_14 (by decide) ?_
    refine lv_istore_n (lv' := [(3, .int (0 : Int32)), (2, .int (-9 : Int32)), (0, .ref a0), (1, .int x1)]) hx hb dX12_whole_15 rfl hl (by decide) rfl (fun ls hl => ?_)
    refine lv_iconst (v := (0 : Int32)) hx hb dX12_whole_16 (by decide) ?_
    refine lv_istore (lv' := [(4, .int (0 : Int32)), (3, .int (0 : Int32)), (2, .int (-9 : Int32)), (0, .ref a0), (1, .int x1)]) hx hb dX12_whole_17 hl (by decide) rfl (fun ls hl => ?_)
    exact k_X12_whole_19 C0 hA FU (-9 : Int32) (0 : Int32) (0 : Int32) hf _ _ hP hD hS ls (lv_sub hl [3, 4, 2, 1, 0] rfl)
  have hf := pbr_t c_3 hf
  refine lv_iconst (v := (-1 : Int32)) hx hb dX12_whole_9 (by decide) ?_
  obtain rfl := pe1 hf
  exact m_iret hx hb hr hlocks hP hS dX12_whole_10
