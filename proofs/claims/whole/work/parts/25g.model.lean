/-! ===== OrphanWaveModel.whence(I)I ===== -/
abbrev rm_X12_whence : Room := { frames := 5, cells := 0, slots := 0, locals := 115 }
abbrev w_X12_whence (a0 : Nat) (q_books : Nat) (q_depths : Nat) (q_far : Nat) (q_tune : Nat) (q_told : Nat) (q_text : Nat) (q_years : Nat) (q_months : Nat) (q_ring : Nat) (q_woods : Nat) (q_ends : Nat) (q_wood : Nat) (q_sheets : Nat) (q_marsh : Nat) (q_oldest : Nat) (q_youngest : Nat) (q_knowns : Nat) (q_known : Nat) (q_weight : Nat) (q_chance : Nat) (q_digs : Nat) (q_draft : Nat) (q_isKept : Nat) (cA : Nat → ClassId) (s_trace : Int64) (s_typed : Int32) (s_earliest : Int32) (s_latest : Int32) (s_firstYear : Int32) (s_rings : Int32) (s_books : Nat → Int32) (s_depths : Nat → Int32) (s_far : Nat → Int32) (s_tune : Nat → Int32) (s_told : Nat → Int32) : va_W := [(a0, .inr (12, [.long s_trace, .ref q_text, .int s_typed, .ref q_depths, .ref q_tune, .ref q_far, .ref q_books, .ref q_told, .int s_earliest, .int s_latest, .ref q_years, .ref q_months, .int s_firstYear, .int s_rings, .ref q_ring, .ref q_woods, .ref q_ends, .ref q_wood, .ref q_sheets, .ref q_marsh, .ref q_oldest, .ref q_youngest, .ref q_knowns, .ref q_known, .ref q_weight, .ref q_chance, .ref q_digs, .ref q_draft, .ref q_isKept])), (q_books, .inl (cA 1, 3, .inl s_books)), (q_depths, .inl (cA 1, 96, .inl s_depths)), (q_far, .inl (cA 1, 48, .inl s_far)), (q_tune, .inl (cA 1, 3, .inl s_tune)), (q_told, .inl (cA 1, 90, .inl s_told))]
theorem hn_X12_whence_X12 : ∀ w ∈ u_ws RX12 TX12 29, w ∈ wsX12_whence := by decide +kernel
theorem hw_X12_whence_c122 : Cond.constant RX12 122 (-1000000) ∈ wsX12_whence := by decide +kernel
theorem hw_X12_whence_f23 : Cond.fieldLink RX12 23 "OrphanWaveModel" "books" "[I" ∈ wsX12_whence := by decide +kernel
theorem hw_X12_whence_f123 : Cond.fieldLink RX12 123 "OrphanWaveModel" "earliest" "I" ∈ wsX12_whence := by decide +kernel
theorem hw_X12_whence_f126 : Cond.fieldLink RX12 126 "OrphanWaveModel" "latest" "I" ∈ wsX12_whence := by decide +kernel

def f_X12_whence_218 (r134 : (Int32) → (Int32) → (Int32) → (Int32) → (Int32) → (Int32) → (Int32) → (Nat → Int32) → Option ((Int32) × (Int32) × (Int32) × (Nat → Int32))) (s_books : Nat → Int32) (s_depths : Nat → Int32) (s_tune : Nat → Int32) (s_told : Nat → Int32) (x1 : Int32) (x6 : Int32) (x7 : Int32) (x8 : Int32) (z0 : Int32) (s_earliest : Int32) (s_latest : Int32) (s_far : Nat → Int32) : Option ((Int32) × (Int32) × (Int32) × (Nat → Int32)) :=
  plt (x8 + (1 : Int32) : Int32) (fun x8_1 => (
  r134 z0 x8 x6 x7 x8_1 s_earliest s_latest s_far))

set_option maxRecDepth 100000 in
set_option maxHeartbeats 4000000 in
theorem k_X12_whence_218 {p : Program} {l : Launch} {e : Env} {s : State} {m : MethodId} {args : Array Value} {below : List Frame} {meth : Method} {c : Code} {A : Nat → Prop} {D : va_G} {cA : Nat → ClassId} (C0 : MX p s m args meth c cX12_whence 9 wsX12_whence RX12 (some .int) D cA) (hA : ∀ q, s.heap.size ≤ q → A q) {a0 : Nat} {q_books : Nat} {q_depths : Nat} {q_far : Nat} {q_tune : Nat} {q_told : Nat} {q_text : Nat} {q_years : Nat} {q_months : Nat} {q_ring : Nat} {q_woods : Nat} {q_ends : Nat} {q_wood : Nat} {q_sheets : Nat} {q_marsh : Nat} {q_oldest : Nat} {q_youngest : Nat} {q_knowns : Nat} {q_known : Nat} {q_weight : Nat} {q_chance : Nat} {q_digs : Nat} {q_draft : Nat} {q_isKept : Nat} {s_trace : Int64} {s_typed : Int32} {s_firstYear : Int32} {s_rings : Int32} {s_books : Nat → Int32} {s_depths : Nat → Int32} {s_tune : Nat → Int32} {s_told : Nat → Int32} {x1 : Int32} {o_r : Int32} {o_earliest : Int32} {o_latest : Int32} {o_far : Nat → Int32} {r134 : (Int32) → (Int32) → (Int32) → (Int32) → (Int32) → (Int32) → (Int32) → (Nat → Int32) → Option ((Int32) × (Int32) × (Int32) × (Nat → Int32))} (hr134 : ∀ (x4 : Int32) (x5 : Int32) (x6 : Int32) (x7 : Int32) (x8 : Int32) (s_earliest : Int32) (s_latest : Int32) (s_far : Nat → Int32), r134 x4 x5 x6 x7 x8 s_earliest s_latest s_far = some (o_r, o_earliest, o_latest, o_far) → ∀ (H : Heap) (locs : List Loc), va_P D vwCl (w_X12_whence a0 q_books q_depths q_far q_tune q_told q_text q_years q_months q_ring q_woods q_ends q_wood q_sheets q_marsh q_oldest q_youngest q_knowns q_known q_weight q_chance q_digs q_draft q_isKept cA s_trace s_typed s_earliest s_latest s_firstYear s_rings s_books s_depths s_far s_tune s_told) H → va_D A (w_X12_whence a0 q_books q_depths q_far q_tune q_told q_text q_years q_months q_ring q_woods q_ends q_wood q_sheets q_marsh q_oldest q_youngest q_knowns q_known q_weight q_chance q_digs q_draft q_isKept cA s_trace s_typed s_earliest s_latest s_firstYear s_rings s_books s_depths s_far s_tune s_told) → va_S A s.heap H locs → ∀ ls : Array Slot, lv_has ls 9 [(0, .ref a0), (1, .int x1), (4, .int x4), (5, .int x5), (6, .int x6), (7, .int x7), (8, .int x8)] → W p l e rm_X12_whence s m args below meth c H locs 0 0 (MQ below (CQ D (some (.int o_r)) (w_X12_whence a0 q_books q_depths q_far q_tune q_told q_text q_years q_months q_ring q_woods q_ends q_wood q_sheets q_marsh q_oldest q_youngest q_knowns q_known q_weight q_chance q_digs q_draft q_isKept cA s_trace s_typed o_earliest o_latest s_firstYear s_rings s_books s_depths o_far s_tune s_told) A) args s 0 0 A) (F0 m 134 ls [])) : ∀ (x6 : Int32) (x7 : Int32) (x8 : Int32) (z0 : Int32) (s_earliest : Int32) (s_latest : Int32) (s_far : Nat → Int32), f_X12_whence_218 r134 s_books s_depths s_tune s_told x1 x6 x7 x8 z0 s_earliest s_latest s_far = some (o_r, o_earliest, o_latest, o_far) → ∀ (H : Heap) (locs : List Loc), va_P D vwCl (w_X12_whence a0 q_books q_depths q_far q_tune q_told q_text q_years q_months q_ring q_woods q_ends q_wood q_sheets q_marsh q_oldest q_youngest q_knowns q_known q_weight q_chance q_digs q_draft q_isKept cA s_trace s_typed s_earliest s_latest s_firstYear s_rings s_books s_depths s_far s_tune s_told) H → va_D A (w_X12_whence a0 q_books q_depths q_far q_tune q_told q_text q_years q_months q_ring q_woods q_ends q_wood q_sheets q_marsh q_oldest q_youngest q_knowns q_known q_weight q_chance q_digs q_draft q_isKept cA s_trace s_typed s_earliest s_latest s_firstYear s_rings s_books s_depths s_far s_tune s_told) → va_S A s.heap H locs → ∀ ls : Array Slot, lv_has ls 9 [(0, .ref a0), (1, .int x1), (6, .int x6), (7, .int x7), (8, .int x8)] → W p l e rm_X12_whence s m args below meth c H locs 0 0 (MQ below (CQ D (some (.int o_r)) (w_X12_whence a0 q_books q_depths q_far q_tune q_told q_text q_years q_months q_ring q_woods q_ends q_wood q_sheets q_marsh q_oldest q_youngest q_knowns q_known q_weight q_chance q_digs q_draft q_isKept cA s_trace s_typed o_earliest o_latest s_firstYear s_rings s_books s_depths o_far s_tune s_told) A) args s 0 0 A) (F0 m 218 ls [.int z0]) := by
  obtain ⟨hx, hb, hml, hown, hts, hr, hlocks, hX⟩ := C0
  have hK := hX.1
  have hN := hX.2
  intro x6 x7 x8 z0 s_earliest s_latest s_far hf H locs hP hD hS ls hl
  unfold f_X12_whence_218 at hf
  refine lv_istore (lv' := [(4, .int z0), (0, .ref a0), (1, .int x1), (6, .int x6), (7, .int x7), (8, .int x8)]) hx hb dX12_whence_218 hl (by decide) rfl (fun ls hl => ?_)
  refine lv_iload hx hb dX12_whence_220 (lv_at hl 5 rfl) ?_
  refine lv_istore (lv' := [(5, .int x8), (4, .int z0), (0, .ref a0), (1, .int x1), (6, .int x6), (7, .int x7), (8, .int x8)]) hx hb dX12_whence_222 hl (by decide) rfl (fun ls hl => ?_)
  obtain ⟨x8_1, ex8_1⟩ : ∃ z : Int32, z = x8 + (1 : Int32) := ⟨_, rfl⟩
  have hf := plt_e ex8_1 hf
  refine lv_iinc (v := x8_1) (lv' := [(8, .int x8_1), (5, .int x8), (4, .int z0), (0, .ref a0), (1, .int x1), (6, .int x6), (7, .int x7)]) hx hb dX12_whence_224 hl (k := 6) rfl (by rw [ex8_1]; rfl) (by decide) rfl (fun ls hl => ?_)
  refine lv_goto (tgt := 134) hx hb dX12_whence_227 (by decide) ?_
  exact hr134 z0 x8 x6 x7 x8_1 s_earliest s_latest s_far hf _ _ hP hD hS ls (lv_sub hl [3, 4, 2, 1, 5, 6, 0] rfl)

def f_X12_whence_202 (r134 : (Int32) → (Int32) → (Int32) → (Int32) → (Int32) → (Int32) → (Int32) → (Nat → Int32) → Option ((Int32) × (Int32) × (Int32) × (Nat → Int32))) (s_books : Nat → Int32) (s_depths : Nat → Int32) (s_tune : Nat → Int32) (s_told : Nat → Int32) (x1 : Int32) (x4 : Int32) (x6 : Int32) (x8 : Int32) (z0 : Int32) (s_earliest : Int32) (s_latest : Int32) (s_far : Nat → Int32) : Option ((Int32) × (Int32) × (Int32) × (Nat → Int32)) :=
  pbr (x4 = (-9 : Int32))
    (f_X12_whence_218 r134 s_books s_depths s_tune s_told x1 x6 z0 x8 x8 s_earliest s_latest s_far)
    (f_X12_whence_218 r134 s_books s_depths s_tune s_told x1 x6 z0 x8 x4 s_earliest s_latest s_far)

set_option maxRecDepth 100000 in
set_option maxHeartbeats 4000000 in
theorem k_X12_whence_202 {p : Program} {l : Launch} {e : Env} {s : State} {m : MethodId} {args : Array Value} {below : List Frame} {meth : Method} {c : Code} {A : Nat → Prop} {D : va_G} {cA : Nat → ClassId} (C0 : MX p s m args meth c cX12_whence 9 wsX12_whence RX12 (some .int) D cA) (hA : ∀ q, s.heap.size ≤ q → A q) {a0 : Nat} {q_books : Nat} {q_depths : Nat} {q_far : Nat} {q_tune : Nat} {q_told : Nat} {q_text : Nat} {q_years : Nat} {q_months : Nat} {q_ring : Nat} {q_woods : Nat} {q_ends : Nat} {q_wood : Nat} {q_sheets : Nat} {q_marsh : Nat} {q_oldest : Nat} {q_youngest : Nat} {q_knowns : Nat} {q_known : Nat} {q_weight : Nat} {q_chance : Nat} {q_digs : Nat} {q_draft : Nat} {q_isKept : Nat} {s_trace : Int64} {s_typed : Int32} {s_firstYear : Int32} {s_rings : Int32} {s_books : Nat → Int32} {s_depths : Nat → Int32} {s_tune : Nat → Int32} {s_told : Nat → Int32} {x1 : Int32} {o_r : Int32} {o_earliest : Int32} {o_latest : Int32} {o_far : Nat → Int32} {r134 : (Int32) → (Int32) → (Int32) → (Int32) → (Int32) → (Int32) → (Int32) → (Nat → Int32) → Option ((Int32) × (Int32) × (Int32) × (Nat → Int32))} (hr134 : ∀ (x4 : Int32) (x5 : Int32) (x6 : Int32) (x7 : Int32) (x8 : Int32) (s_earliest : Int32) (s_latest : Int32) (s_far : Nat → Int32), r134 x4 x5 x6 x7 x8 s_earliest s_latest s_far = some (o_r, o_earliest, o_latest, o_far) → ∀ (H : Heap) (locs : List Loc), va_P D vwCl (w_X12_whence a0 q_books q_depths q_far q_tune q_told q_text q_years q_months q_ring q_woods q_ends q_wood q_sheets q_marsh q_oldest q_youngest q_knowns q_known q_weight q_chance q_digs q_draft q_isKept cA s_trace s_typed s_earliest s_latest s_firstYear s_rings s_books s_depths s_far s_tune s_told) H → va_D A (w_X12_whence a0 q_books q_depths q_far q_tune q_told q_text q_years q_months q_ring q_woods q_ends q_wood q_sheets q_marsh q_oldest q_youngest q_knowns q_known q_weight q_chance q_digs q_draft q_isKept cA s_trace s_typed s_earliest s_latest s_firstYear s_rings s_books s_depths s_far s_tune s_told) → va_S A s.heap H locs → ∀ ls : Array Slot, lv_has ls 9 [(0, .ref a0), (1, .int x1), (4, .int x4), (5, .int x5), (6, .int x6), (7, .int x7), (8, .int x8)] → W p l e rm_X12_whence s m args below meth c H locs 0 0 (MQ below (CQ D (some (.int o_r)) (w_X12_whence a0 q_books q_depths q_far q_tune q_told q_text q_years q_months q_ring q_woods q_ends q_wood q_sheets q_marsh q_oldest q_youngest q_knowns q_known q_weight q_chance q_digs q_draft q_isKept cA s_trace s_typed o_earliest o_latest s_firstYear s_rings s_books s_depths o_far s_tune s_told) A) args s 0 0 A) (F0 m 134 ls [])) : ∀ (x4 : Int32) (x6 : Int32) (x8 : Int32) (z0 : Int32) (s_earliest : Int32) (s_latest : Int32) (s_far : Nat → Int32), f_X12_whence_202 r134 s_books s_depths s_tune s_told x1 x4 x6 x8 z0 s_earliest s_latest s_far = some (o_r, o_earliest, o_latest, o_far) → ∀ (H : Heap) (locs : List Loc), va_P D vwCl (w_X12_whence a0 q_books q_depths q_far q_tune q_told q_text q_years q_months q_ring q_woods q_ends q_wood q_sheets q_marsh q_oldest q_youngest q_knowns q_known q_weight q_chance q_digs q_draft q_isKept cA s_trace s_typed s_earliest s_latest s_firstYear s_rings s_books s_depths s_far s_tune s_told) H → va_D A (w_X12_whence a0 q_books q_depths q_far q_tune q_told q_text q_years q_months q_ring q_woods q_ends q_wood q_sheets q_marsh q_oldest q_youngest q_knowns q_known q_weight q_chance q_digs q_draft q_isKept cA s_trace s_typed s_earliest s_latest s_firstYear s_rings s_books s_depths s_far s_tune s_told) → va_S A s.heap H locs → ∀ ls : Array Slot, lv_has ls 9 [(0, .ref a0), (1, .int x1), (4, .int x4), (6, .int x6), (8, .int x8)] → W p l e rm_X12_whence s m args below meth c H locs 0 0 (MQ below (CQ D (some (.int o_r)) (w_X12_whence a0 q_books q_depths q_far q_tune q_told q_text q_years q_months q_ring q_woods q_ends q_wood q_sheets q_marsh q_oldest q_youngest q_knowns q_known q_weight q_chance q_digs q_draft q_isKept cA s_trace s_typed o_earliest o_latest s_firstYear s_rings s_books s_depths o_far s_tune s_told) A) args s 0 0 A) (F0 m 202 ls [.int z0]) := by
  obtain ⟨hx, hb, hml, hown, hts, hr, hlocks, hX⟩ := C0
  have hK := hX.1
  have hN := hX.2
  intro x4 x6 x8 z0 s_earliest s_latest s_far hf H locs hP hD hS ls hl
  unfold f_X12_whence_202 at hf
  refine lv_istore (lv' := [(7, .int z0), (0, .ref a0), (1, .int x1), (4, .int x4), (6, .int x6), (8, .int x8)]) hx hb dX12_whence_202 hl (by decide) rfl (fun ls hl => ?_)
  refine lv_iload hx hb dX12_whence_204 (lv_at hl 3 rfl) ?_
  refine lv_bipush (v := (-9 : Int32)) hx hb dX12_whence_206 (by decide) ?_
  refine lv_icmp_ne (tgt := 216) hx hb dX12_whence_208 (by decide) (fun c_1 => ?_) (fun c_1 => ?_)
  · have hf := pbr_f c_1 hf
    refine lv_iload hx hb dX12_whence_216 (lv_at hl 3 rfl) ?_
    exact k_X12_whence_218 ⟨hx, hb, hml, hown, hts, hr, hlocks, hX⟩ hA hr134 x6 z0 x8 x4 s_earliest s_latest s_far hf _ _ hP hD hS ls (lv_sub hl [1, 2, 4, 0, 5] rfl)
  have hf := pbr_t c_1 hf
  refine lv_iload hx hb dX12_whence_211 (lv_at hl 5 rfl) ?_
  refine lv_goto (tgt := 218) hx hb dX12_whence_213 (by decide) ?_
  exact k_X12_whence_218 ⟨hx, hb, hml, hown, hts, hr, hlocks, hX⟩ hA hr134 x6 z0 x8 x8 s_earliest s_latest s_far hf _ _ hP hD hS ls (lv_sub hl [1, 2, 4, 0, 5] rfl)

def f_X12_whence_193 (r134 : (Int32) → (Int32) → (Int32) → (Int32) → (Int32) → (Int32) → (Int32) → (Nat → Int32) → Option ((Int32) × (Int32) × (Int32) × (Nat → Int32))) (s_books : Nat → Int32) (s_depths : Nat → Int32) (s_tune : Nat → Int32) (s_told : Nat → Int32) (x1 : Int32) (x4 : Int32) (x6 : Int32) (x8 : Int32) (s_earliest : Int32) (s_latest : Int32) (s_far : Nat → Int32) : Option ((Int32) × (Int32) × (Int32) × (Nat → Int32)) :=
  f_X12_whence_202 r134 s_books s_depths s_tune s_told x1 x4 x6 x8 s_latest s_earliest s_latest s_far

set_option maxRecDepth 100000 in
set_option maxHeartbeats 4000000 in
theorem k_X12_whence_193 {p : Program} {l : Launch} {e : Env} {s : State} {m : MethodId} {args : Array Value} {below : List Frame} {meth : Method} {c : Code} {A : Nat → Prop} {D : va_G} {cA : Nat → ClassId} (C0 : MX p s m args meth c cX12_whence 9 wsX12_whence RX12 (some .int) D cA) (hA : ∀ q, s.heap.size ≤ q → A q) {a0 : Nat} {q_books : Nat} {q_depths : Nat} {q_far : Nat} {q_tune : Nat} {q_told : Nat} {q_text : Nat} {q_years : Nat} {q_months : Nat} {q_ring : Nat} {q_woods : Nat} {q_ends : Nat} {q_wood : Nat} {q_sheets : Nat} {q_marsh : Nat} {q_oldest : Nat} {q_youngest : Nat} {q_knowns : Nat} {q_known : Nat} {q_weight : Nat} {q_chance : Nat} {q_digs : Nat} {q_draft : Nat} {q_isKept : Nat} {s_trace : Int64} {s_typed : Int32} {s_firstYear : Int32} {s_rings : Int32} {s_books : Nat → Int32} {s_depths : Nat → Int32} {s_tune : Nat → Int32} {s_told : Nat → Int32} {x1 : Int32} {o_r : Int32} {o_earliest : Int32} {o_latest : Int32} {o_far : Nat → Int32} {r134 : (Int32) → (Int32) → (Int32) → (Int32) → (Int32) → (Int32) → (Int32) → (Nat → Int32) → Option ((Int32) × (Int32) × (Int32) × (Nat → Int32))} (hr134 : ∀ (x4 : Int32) (x5 : Int32) (x6 : Int32) (x7 : Int32) (x8 : Int32) (s_earliest : Int32) (s_latest : Int32) (s_far : Nat → Int32), r134 x4 x5 x6 x7 x8 s_earliest s_latest s_far = some (o_r, o_earliest, o_latest, o_far) → ∀ (H : Heap) (locs : List Loc), va_P D vwCl (w_X12_whence a0 q_books q_depths q_far q_tune q_told q_text q_years q_months q_ring q_woods q_ends q_wood q_sheets q_marsh q_oldest q_youngest q_knowns q_known q_weight q_chance q_digs q_draft q_isKept cA s_trace s_typed s_earliest s_latest s_firstYear s_rings s_books s_depths s_far s_tune s_told) H → va_D A (w_X12_whence a0 q_books q_depths q_far q_tune q_told q_text q_years q_months q_ring q_woods q_ends q_wood q_sheets q_marsh q_oldest q_youngest q_knowns q_known q_weight q_chance q_digs q_draft q_isKept cA s_trace s_typed s_earliest s_latest s_firstYear s_rings s_books s_depths s_far s_tune s_told) → va_S A s.heap H locs → ∀ ls : Array Slot, lv_has ls 9 [(0, .ref a0), (1, .int x1), (4, .int x4), (5, .int x5), (6, .int x6), (7, .int x7), (8, .int x8)] → W p l e rm_X12_whence s m args below meth c H locs 0 0 (MQ below (CQ D (some (.int o_r)) (w_X12_whence a0 q_books q_depths q_far q_tune q_told q_text q_years q_months q_ring q_woods q_ends q_wood q_sheets q_marsh q_oldest q_youngest q_knowns q_known q_weight q_chance q_digs q_draft q_isKept cA s_trace s_typed o_earliest o_latest s_firstYear s_rings s_books s_depths o_far s_tune s_told) A) args s 0 0 A) (F0 m 134 ls [])) : ∀ (x4 : Int32) (x6 : Int32) (x8 : Int32) (s_earliest : Int32) (s_latest : Int32) (s_far : Nat → Int32), f_X12_whence_193 r134 s_books s_depths s_tune s_told x1 x4 x6 x8 s_earliest s_latest s_far = some (o_r, o_earliest, o_latest, o_far) → ∀ (H : Heap) (locs : List Loc), va_P D vwCl (w_X12_whence a0 q_books q_depths q_far q_tune q_told q_text q_years q_months q_ring q_woods q_ends q_wood q_sheets q_marsh q_oldest q_youngest q_knowns q_known q_weight q_chance q_digs q_draft q_isKept cA s_trace s_typed s_earliest s_latest s_firstYear s_rings s_books s_depths s_far s_tune s_told) H → va_D A (w_X12_whence a0 q_books q_depths q_far q_tune q_told q_text q_years q_months q_ring q_woods q_ends q_wood q_sheets q_marsh q_oldest q_youngest q_knowns q_known q_weight q_chance q_digs q_draft q_isKept cA s_trace s_typed s_earliest s_latest s_firstYear s_rings s_books s_depths s_far s_tune s_told) → va_S A s.heap H locs → ∀ ls : Array Slot, lv_has ls 9 [(0, .ref a0), (1, .int x1), (4, .int x4), (6, .int x6), (8, .int x8)] → W p l e rm_X12_whence s m args below meth c H locs 0 0 (MQ below (CQ D (some (.int o_r)) (w_X12_whence a0 q_books q_depths q_far q_tune q_told q_text q_years q_months q_ring q_woods q_ends q_wood q_sheets q_marsh q_oldest q_youngest q_knowns q_known q_weight q_chance q_digs q_draft q_isKept cA s_trace s_typed o_earliest o_latest s_firstYear s_rings s_books s_depths o_far s_tune s_told) A) args s 0 0 A) (F0 m 193 ls []) := by
  obtain ⟨hx, hb, hml, hown, hts, hr, hlocks, hX⟩ := C0
  have hK := hX.1
  have hN := hX.2
  intro x4 x6 x8 s_earliest s_latest s_far hf H locs hP hD hS ls hl
  unfold f_X12_whence_193 at hf
  refine lv_aload_n hx hb dX12_whence_193 rfl (lv_at hl 0 rfl) ?_
  refine va_get (D := D) (ci := 12) (v := .int s_latest) (C := RX12) (T := TX12) (N := 29) hx hb hts hn_X12_whence_X12 hown hK hP 0 rfl rfl 9 (by decide) (hts _ hw_X12_whence_f126) (fun _ h9 => h9) rfl dX12_whence_194 ?_
  refine lv_goto (tgt := 202) hx hb dX12_whence_197 (by decide) ?_
  exact k_X12_whence_202 ⟨hx, hb, hml, hown, hts, hr, hlocks, hX⟩ hA hr134 x4 x6 x8 s_latest s_earliest s_latest s_far hf _ _ hP hD hS ls (lv_sub hl [0, 1, 2, 3, 4] rfl)

def f_X12_whence_175 (r134 : (Int32) → (Int32) → (Int32) → (Int32) → (Int32) → (Int32) → (Int32) → (Nat → Int32) → Option ((Int32) × (Int32) × (Int32) × (Nat → Int32))) (s_books : Nat → Int32) (s_depths : Nat → Int32) (s_tune : Nat → Int32) (s_told : Nat → Int32) (x1 : Int32) (x4 : Int32) (x7 : Int32) (x8 : Int32) (z0 : Int32) (s_earliest : Int32) (s_latest : Int32) (s_far : Nat → Int32) : Option ((Int32) × (Int32) × (Int32) × (Nat → Int32)) :=
  pbr (x4 = (-9 : Int32))
    (f_X12_whence_193 r134 s_books s_depths s_tune s_told x1 x4 z0 x8 s_earliest s_latest s_far)
    (pbr (s_latest ≤ x7)
      (f_X12_whence_202 r134 s_books s_depths s_tune s_told x1 x4 z0 x8 x7 s_earliest s_latest s_far)
      (f_X12_whence_193 r134 s_books s_depths s_tune s_told x1 x4 z0 x8 s_earliest s_latest s_far))

set_option maxRecDepth 100000 in
set_option maxHeartbeats 4000000 in
theorem k_X12_whence_175 {p : Program} {l : Launch} {e : Env} {s : State} {m : MethodId} {args : Array Value} {below : List Frame} {meth : Method} {c : Code} {A : Nat → Prop} {D : va_G} {cA : Nat → ClassId} (C0 : MX p s m args meth c cX12_whence 9 wsX12_whence RX12 (some .int) D cA) (hA : ∀ q, s.heap.size ≤ q → A q) {a0 : Nat} {q_books : Nat} {q_depths : Nat} {q_far : Nat} {q_tune : Nat} {q_told : Nat} {q_text : Nat} {q_years : Nat} {q_months : Nat} {q_ring : Nat} {q_woods : Nat} {q_ends : Nat} {q_wood : Nat} {q_sheets : Nat} {q_marsh : Nat} {q_oldest : Nat} {q_youngest : Nat} {q_knowns : Nat} {q_known : Nat} {q_weight : Nat} {q_chance : Nat} {q_digs : Nat} {q_draft : Nat} {q_isKept : Nat} {s_trace : Int64} {s_typed : Int32} {s_firstYear : Int32} {s_rings : Int32} {s_books : Nat → Int32} {s_depths : Nat → Int32} {s_tune : Nat → Int32} {s_told : Nat → Int32} {x1 : Int32} {o_r : Int32} {o_earliest : Int32} {o_latest : Int32} {o_far : Nat → Int32} {r134 : (Int32) → (Int32) → (Int32) → (Int32) → (Int32) → (Int32) → (Int32) → (Nat → Int32) → Option ((Int32) × (Int32) × (Int32) × (Nat → Int32))} (hr134 : ∀ (x4 : Int32) (x5 : Int32) (x6 : Int32) (x7 : Int32) (x8 : Int32) (s_earliest : Int32) (s_latest : Int32) (s_far : Nat → Int32), r134 x4 x5 x6 x7 x8 s_earliest s_latest s_far = some (o_r, o_earliest, o_latest, o_far) → ∀ (H : Heap) (locs : List Loc), va_P D vwCl (w_X12_whence a0 q_books q_depths q_far q_tune q_told q_text q_years q_months q_ring q_woods q_ends q_wood q_sheets q_marsh q_oldest q_youngest q_knowns q_known q_weight q_chance q_digs q_draft q_isKept cA s_trace s_typed s_earliest s_latest s_firstYear s_rings s_books s_depths s_far s_tune s_told) H → va_D A (w_X12_whence a0 q_books q_depths q_far q_tune q_told q_text q_years q_months q_ring q_woods q_ends q_wood q_sheets q_marsh q_oldest q_youngest q_knowns q_known q_weight q_chance q_digs q_draft q_isKept cA s_trace s_typed s_earliest s_latest s_firstYear s_rings s_books s_depths s_far s_tune s_told) → va_S A s.heap H locs → ∀ ls : Array Slot, lv_has ls 9 [(0, .ref a0), (1, .int x1), (4, .int x4), (5, .int x5), (6, .int x6), (7, .int x7), (8, .int x8)] → W p l e rm_X12_whence s m args below meth c H locs 0 0 (MQ below (CQ D (some (.int o_r)) (w_X12_whence a0 q_books q_depths q_far q_tune q_told q_text q_years q_months q_ring q_woods q_ends q_wood q_sheets q_marsh q_oldest q_youngest q_knowns q_known q_weight q_chance q_digs q_draft q_isKept cA s_trace s_typed o_earliest o_latest s_firstYear s_rings s_books s_depths o_far s_tune s_told) A) args s 0 0 A) (F0 m 134 ls [])) : ∀ (x4 : Int32) (x7 : Int32) (x8 : Int32) (z0 : Int32) (s_earliest : Int32) (s_latest : Int32) (s_far : Nat → Int32), f_X12_whence_175 r134 s_books s_depths s_tune s_told x1 x4 x7 x8 z0 s_earliest s_latest s_far = some (o_r, o_earliest, o_latest, o_far) → ∀ (H : Heap) (locs : List Loc), va_P D vwCl (w_X12_whence a0 q_books q_depths q_far q_tune q_told q_text q_years q_months q_ring q_woods q_ends q_wood q_sheets q_marsh q_oldest q_youngest q_knowns q_known q_weight q_chance q_digs q_draft q_isKept cA s_trace s_typed s_earliest s_latest s_firstYear s_rings s_books s_depths s_far s_tune s_told) H → va_D A (w_X12_whence a0 q_books q_depths q_far q_tune q_told q_text q_years q_months q_ring q_woods q_ends q_wood q_sheets q_marsh q_oldest q_youngest q_knowns q_known q_weight q_chance q_digs q_draft q_isKept cA s_trace s_typed s_earliest s_latest s_firstYear s_rings s_books s_depths s_far s_tune s_told) → va_S A s.heap H locs → ∀ ls : Array Slot, lv_has ls 9 [(0, .ref a0), (1, .int x1), (4, .int x4), (7, .int x7), (8, .int x8)] → W p l e rm_X12_whence s m args below meth c H locs 0 0 (MQ below (CQ D (some (.int o_r)) (w_X12_whence a0 q_books q_depths q_far q_tune q_told q_text q_years q_months q_ring q_woods q_ends q_wood q_sheets q_marsh q_oldest q_youngest q_knowns q_known q_weight q_chance q_digs q_draft q_isKept cA s_trace s_typed o_earliest o_latest s_firstYear s_rings s_books s_depths o_far s_tune s_told) A) args s 0 0 A) (F0 m 175 ls [.int z0]) := by
  obtain ⟨hx, hb, hml, hown, hts, hr, hlocks, hX⟩ := C0
  have hK := hX.1
  have hN := hX.2
  intro x4 x7 x8 z0 s_earliest s_latest s_far hf H locs hP hD hS ls hl
  unfold f_X12_whence_175 at hf
  refine lv_istore (lv' := [(6, .int z0), (0, .ref a0), (1, .int x1), (4, .int x4), (7, .int x7), (8, .int x8)]) hx hb dX12_whence_175 hl (by decide) rfl (fun ls hl => ?_)
  refine lv_iload hx hb dX12_whence_177 (lv_at hl 3 rfl) ?_
  refine lv_bipush (v := (-9 : Int32)) hx hb dX12_whence_179 (by decide) ?_
  refine lv_icmp_eq (tgt := 193) hx hb dX12_whence_181 (by decide) (fun c_1 => ?_) (fun c_1 => ?_)
  · have hf := pbr_t c_1 hf
    exact k_X12_whence_193 ⟨hx, hb, hml, hown, hts, hr, hlocks, hX⟩ hA hr134 x4 z0 x8 s_earliest s_latest s_far hf _ _ hP hD hS ls (lv_sub hl [1, 2, 3, 0, 5] rfl)
  have hf := pbr_f c_1 hf
  refine lv_aload_n hx hb dX12_whence_184 rfl (lv_at hl 1 rfl) ?_
  refine va_get (D := D) (ci := 12) (v := .int s_latest) (C := RX12) (T := TX12) (N := 29) hx hb hts hn_X12_whence_X12 hown hK hP 0 rfl rfl 9 (by decide) (hts _ hw_X12_whence_f126) (fun _ h9 => h9) rfl dX12_whence_185 ?_
  refine lv_iload hx hb dX12_whence_188 (lv_at hl 4 rfl) ?_
  refine lv_icmp_le (tgt := 200) hx hb dX12_whence_190 (by decide) (fun c_2 => ?_) (fun c_2 => ?_)
  · have hf := pbr_t c_2 hf
    refine lv_iload hx hb dX12_whence_200 (lv_at hl 4 rfl) ?_
    exact k_X12_whence_202 ⟨hx, hb, hml, hown, hts, hr, hlocks, hX⟩ hA hr134 x4 z0 x8 x7 s_earliest s_latest s_far hf _ _ hP hD hS ls (lv_sub hl [1, 2, 3, 0, 5] rfl)
  have hf := pbr_f c_2 hf
  exact k_X12_whence_193 ⟨hx, hb, hml, hown, hts, hr, hlocks, hX⟩ hA hr134 x4 z0 x8 s_earliest s_latest s_far hf _ _ hP hD hS ls (lv_sub hl [1, 2, 3, 0, 5] rfl)

def f_X12_whence_166 (r134 : (Int32) → (Int32) → (Int32) → (Int32) → (Int32) → (Int32) → (Int32) → (Nat → Int32) → Option ((Int32) × (Int32) × (Int32) × (Nat → Int32))) (s_books : Nat → Int32) (s_depths : Nat → Int32) (s_tune : Nat → Int32) (s_told : Nat → Int32) (x1 : Int32) (x4 : Int32) (x7 : Int32) (x8 : Int32) (s_earliest : Int32) (s_latest : Int32) (s_far : Nat → Int32) : Option ((Int32) × (Int32) × (Int32) × (Nat → Int32)) :=
  f_X12_whence_175 r134 s_books s_depths s_tune s_told x1 x4 x7 x8 s_earliest s_earliest s_latest s_far

set_option maxRecDepth 100000 in
set_option maxHeartbeats 4000000 in
theorem k_X12_whence_166 {p : Program} {l : Launch} {e : Env} {s : State} {m : MethodId} {args : Array Value} {below : List Frame} {meth : Method} {c : Code} {A : Nat → Prop} {D : va_G} {cA : Nat → ClassId} (C0 : MX p s m args meth c cX12_whence 9 wsX12_whence RX12 (some .int) D cA) (hA : ∀ q, s.heap.size ≤ q → A q) {a0 : Nat} {q_books : Nat} {q_depths : Nat} {q_far : Nat} {q_tune : Nat} {q_told : Nat} {q_text : Nat} {q_years : Nat} {q_months : Nat} {q_ring : Nat} {q_woods : Nat} {q_ends : Nat} {q_wood : Nat} {q_sheets : Nat} {q_marsh : Nat} {q_oldest : Nat} {q_youngest : Nat} {q_knowns : Nat} {q_known : Nat} {q_weight : Nat} {q_chance : Nat} {q_digs : Nat} {q_draft : Nat} {q_isKept : Nat} {s_trace : Int64} {s_typed : Int32} {s_firstYear : Int32} {s_rings : Int32} {s_books : Nat → Int32} {s_depths : Nat → Int32} {s_tune : Nat → Int32} {s_told : Nat → Int32} {x1 : Int32} {o_r : Int32} {o_earliest : Int32} {o_latest : Int32} {o_far : Nat → Int32} {r134 : (Int32) → (Int32) → (Int32) → (Int32) → (Int32) → (Int32) → (Int32) → (Nat → Int32) → Option ((Int32) × (Int32) × (Int32) × (Nat → Int32))} (hr134 : ∀ (x4 : Int32) (x5 : Int32) (x6 : Int32) (x7 : Int32) (x8 : Int32) (s_earliest : Int32) (s_latest : Int32) (s_far : Nat → Int32), r134 x4 x5 x6 x7 x8 s_earliest s_latest s_far = some (o_r, o_earliest, o_latest, o_far) → ∀ (H : Heap) (locs : List Loc), va_P D vwCl (w_X12_whence a0 q_books q_depths q_far q_tune q_told q_text q_years q_months q_ring q_woods q_ends q_wood q_sheets q_marsh q_oldest q_youngest q_knowns q_known q_weight q_chance q_digs q_draft q_isKept cA s_trace s_typed s_earliest s_latest s_firstYear s_rings s_books s_depths s_far s_tune s_told) H → va_D A (w_X12_whence a0 q_books q_depths q_far q_tune q_told q_text q_years q_months q_ring q_woods q_ends q_wood q_sheets q_marsh q_oldest q_youngest q_knowns q_known q_weight q_chance q_digs q_draft q_isKept cA s_trace s_typed s_earliest s_latest s_firstYear s_rings s_books s_depths s_far s_tune s_told) → va_S A s.heap H locs → ∀ ls : Array Slot, lv_has ls 9 [(0, .ref a0), (1, .int x1), (4, .int x4), (5, .int x5), (6, .int x6), (7, .int x7), (8, .int x8)] → W p l e rm_X12_whence s m args below meth c H locs 0 0 (MQ below (CQ D (some (.int o_r)) (w_X12_whence a0 q_books q_depths q_far q_tune q_told q_text q_years q_months q_ring q_woods q_ends q_wood q_sheets q_marsh q_oldest q_youngest q_knowns q_known q_weight q_chance q_digs q_draft q_isKept cA s_trace s_typed o_earliest o_latest s_firstYear s_rings s_books s_depths o_far s_tune s_told) A) args s 0 0 A) (F0 m 134 ls [])) : ∀ (x4 : Int32) (x7 : Int32) (x8 : Int32) (s_earliest : Int32) (s_latest : Int32) (s_far : Nat → Int32), f_X12_whence_166 r134 s_books s_depths s_tune s_told x1 x4 x7 x8 s_earliest s_latest s_far = some (o_r, o_earliest, o_latest, o_far) → ∀ (H : Heap) (locs : List Loc), va_P D vwCl (w_X12_whence a0 q_books q_depths q_far q_tune q_told q_text q_years q_months q_ring q_woods q_ends q_wood q_sheets q_marsh q_oldest q_youngest q_knowns q_known q_weight q_chance q_digs q_draft q_isKept cA s_trace s_typed s_earliest s_latest s_firstYear s_rings s_books s_depths s_far s_tune s_told) H → va_D A (w_X12_whence a0 q_books q_depths q_far q_tune q_told q_text q_years q_months q_ring q_woods q_ends q_wood q_sheets q_marsh q_oldest q_youngest q_knowns q_known q_weight q_chance q_digs q_draft q_isKept cA s_trace s_typed s_earliest s_latest s_firstYear s_rings s_books s_depths s_far s_tune s_told) → va_S A s.heap H locs → ∀ ls : Array Slot, lv_has ls 9 [(0, .ref a0), (1, .int x1), (4, .int x4), (7, .int x7), (8, .int x8)] → W p l e rm_X12_whence s m args below meth c H locs 0 0 (MQ below (CQ D (some (.int o_r)) (w_X12_whence a0 q_books q_depths q_far q_tune q_told q_text q_years q_months q_ring q_woods q_ends q_wood q_sheets q_marsh q_oldest q_youngest q_knowns q_known q_weight q_chance q_digs q_draft q_isKept cA s_trace s_typed o_earliest o_latest s_firstYear s_rings s_books s_depths o_far s_tune s_told) A) args s 0 0 A) (F0 m 166 ls []) := by
  obtain ⟨hx, hb, hml, hown, hts, hr, hlocks, hX⟩ := C0
  have hK := hX.1
  have hN := hX.2
  intro x4 x7 x8 s_earliest s_latest s_far hf H locs hP hD hS ls hl
  unfold f_X12_whence_166 at hf
  refine lv_aload_n hx hb dX12_whence_166 rfl (lv_at hl 0 rfl) ?_
  refine va_get (D := D) (ci := 12) (v := .int s_earliest) (C := RX12) (T := TX12) (N := 29) hx hb hts hn_X12_whence_X12 hown hK hP 0 rfl rfl 8 (by decide) (hts _ hw_X12_whence_f123) (fun _ h9 => h9) rfl dX12_whence_167 ?_
  refine lv_goto (tgt := 175) hx hb dX12_whence_170 (by decide) ?_
  exact k_X12_whence_175 ⟨hx, hb, hml, hown, hts, hr, hlocks, hX⟩ hA hr134 x4 x7 x8 s_earliest s_earliest s_latest s_far hf _ _ hP hD hS ls (lv_sub hl [0, 1, 2, 3, 4] rfl)

def f_X12_whence_134 (s_books : Nat → Int32) (s_depths : Nat → Int32) (s_tune : Nat → Int32) (s_told : Nat → Int32) (x1 : Int32) : Nat → (Int32) → (Int32) → (Int32) → (Int32) → (Int32) → (Int32) → (Int32) → (Nat → Int32) → Option ((Int32) × (Int32) × (Int32) × (Nat → Int32))
  | 0, _, _, _, _, _, _, _, _ => none
  | k + 1, x4, x5, x6, x7, x8, s_earliest, s_latest, s_far =>
    pbr ((100 : Int32) ≤ x8)
      (pbr (x1 = (1 : Int32))
        (some (x4, s_earliest, s_latest, s_far))
        (pbr (x1 = (2 : Int32))
          (some (x5, s_earliest, s_latest, s_far))
          (pbr (x1 = (3 : Int32))
            (some (x6, s_earliest, s_latest, s_far))
            (some (x7, s_earliest, s_latest, s_far)))))
      (pcl (f_X12_beginsOf x8 s_earliest s_latest s_books s_told s_far s_tune s_depths) (fun (r_5, earliest_6, latest_7) => (
      pbr (r_5 ≤ 0)
        (plt (x8 + (1 : Int32) : Int32) (fun x8_10 => (
        (f_X12_whence_134 s_books s_depths s_tune s_told x1 k) x4 x5 x6 x7 x8_10 earliest_6 latest_7 s_far)))
        (pbr (x4 = (-9 : Int32))
          (f_X12_whence_166 (f_X12_whence_134 s_books s_depths s_tune s_told x1 k) s_books s_depths s_tune s_told x1 x4 x7 x8 earliest_6 latest_7 s_far)
          (pbr (x6 ≤ earliest_6)
            (f_X12_whence_175 (f_X12_whence_134 s_books s_depths s_tune s_told x1 k) s_books s_depths s_tune s_told x1 x4 x7 x8 x6 earliest_6 latest_7 s_far)
            (f_X12_whence_166 (f_X12_whence_134 s_books s_depths s_tune s_told x1 k) s_books s_depths s_tune s_told x1 x4 x7 x8 earliest_6 latest_7 s_far))))))

set_option maxRecDepth 100000 in
set_option maxHeartbeats 4000000 in
theorem k_X12_whence_134 {p : Program} {l : Launch} {e : Env} {s : State} {m : MethodId} {args : Array Value} {below : List Frame} {meth : Method} {c : Code} {A : Nat → Prop} {D : va_G} {cA : Nat → ClassId} (C0 : MX p s m args meth c cX12_whence 9 wsX12_whence RX12 (some .int) D cA) (hA : ∀ q, s.heap.size ≤ q → A q) {a0 : Nat} {q_books : Nat} {q_depths : Nat} {q_far : Nat} {q_tune : Nat} {q_told : Nat} {q_text : Nat} {q_years : Nat} {q_months : Nat} {q_ring : Nat} {q_woods : Nat} {q_ends : Nat} {q_wood : Nat} {q_sheets : Nat} {q_marsh : Nat} {q_oldest : Nat} {q_youngest : Nat} {q_knowns : Nat} {q_known : Nat} {q_weight : Nat} {q_chance : Nat} {q_digs : Nat} {q_draft : Nat} {q_isKept : Nat} {s_trace : Int64} {s_typed : Int32} {s_firstYear : Int32} {s_rings : Int32} {s_books : Nat → Int32} {s_depths : Nat → Int32} {s_tune : Nat → Int32} {s_told : Nat → Int32} {x1 : Int32} {o_r : Int32} {o_earliest : Int32} {o_latest : Int32} {o_far : Nat → Int32} : ∀ (k : Nat) (x4 : Int32) (x5 : Int32) (x6 : Int32) (x7 : Int32) (x8 : Int32) (s_earliest : Int32) (s_latest : Int32) (s_far : Nat → Int32), f_X12_whence_134 s_books s_depths s_tune s_told x1 k x4 x5 x6 x7 x8 s_earliest s_latest s_far = some (o_r, o_earliest, o_latest, o_far) → ∀ (H : Heap) (locs : List Loc), va_P D vwCl (w_X12_whence a0 q_books q_depths q_far q_tune q_told q_text q_years q_months q_ring q_woods q_ends q_wood q_sheets q_marsh q_oldest q_youngest q_knowns q_known q_weight q_chance q_digs q_draft q_isKept cA s_trace s_typed s_earliest s_latest s_firstYear s_rings s_books s_depths s_far s_tune s_told) H → va_D A (w_X12_whence a0 q_books q_depths q_far q_tune q_told q_text q_years q_months q_ring q_woods q_ends q_wood q_sheets q_marsh q_oldest q_youngest q_knowns q_known q_weight q_chance q_digs q_draft q_isKept cA s_trace s_typed s_earliest s_latest s_firstYear s_rings s_books s_depths s_far s_tune s_told) → va_S A s.heap H locs → ∀ ls : Array Slot, lv_has ls 9 [(0, .ref a0), (1, .int x1), (4, .int x4), (5, .int x5), (6, .int x6), (7, .int x7), (8, .int x8)] → W p l e rm_X12_whence s m args below meth c H locs 0 0 (MQ below (CQ D (some (.int o_r)) (w_X12_whence a0 q_books q_depths q_far q_tune q_told q_text q_years q_months q_ring q_woods q_ends q_wood q_sheets q_marsh q_oldest q_youngest q_knowns q_known q_weight q_chance q_digs q_draft q_isKept cA s_trace s_typed o_earliest o_latest s_firstYear s_rings s_books s_depths o_far s_tune s_told) A) args s 0 0 A) (F0 m 134 ls []) := by
  obtain ⟨hx, hb, hml, hown, hts, hr, hlocks, hX⟩ := C0
  have hK := hX.1
  have hN := hX.2
  intro k
  induction k with
  | zero =>
    intro x4 x5 x6 x7 x8 s_earliest s_latest s_far hf
    cases hf
  | succ k ih =>
    intro x4 x5 x6 x7 x8 s_earliest s_latest s_far hf H locs hP hD hS ls hl
    rw [f_X12_whence_134] at hf
    refine lv_iload hx hb dX12_whence_134 (lv_at hl 6 rfl) ?_
    refine lv_bipush (v := (100 : Int32)) hx hb dX12_whence_136 (by decide) ?_
    refine lv_icmp_ge (tgt := 230) hx hb dX12_whence_138 (by decide) (fun c_1 => ?_) (fun c_1 => ?_)
    · have hf := pbr_t c_1 hf
      refine lv_iload_n hx hb dX12_whence_230 rfl (lv_at hl 1 rfl) ?_
      refine lv_iconst (v := (1 : Int32)) hx hb dX12_whence_231 (by decide) ?_
      refine lv_icmp_ne (tgt := 240) hx hb dX12_whence_232 (by decide) (fun c_2 => ?_) (fun c_2 => ?_)
      · have hf := pbr_f c_2 hf
        refine lv_iload_n hx hb dX12_whence_240 rfl (lv_at hl 1 rfl) ?_
        refine lv_iconst (v := (2 : Int32)) hx hb dX12_whence_241 (by decide) ?_
        refine lv_icmp_ne (tgt := 250) hx hb dX12_whence_242 (by decide) (fun c_3 => ?_) (fun c_3 => ?_)
        · have hf := pbr_f c_3 hf
          refine lv_iload_n hx hb dX12_whence_250 rfl (lv_at hl 1 rfl) ?_
          refine lv_iconst (v := (3 : Int32)) hx hb dX12_whence_251 (by decide) ?_
          refine lv_icmp_ne (tgt := 260) hx hb dX12_whence_252 (by decide) (fun c_4 => ?_) (fun c_4 => ?_)
          · have hf := pbr_f c_4 hf
            refine lv_iload hx hb dX12_whence_260 (lv_at hl 5 rfl) ?_
            obtain ⟨rfl, rfl, rfl, rfl⟩ := pe4 hf
            exact m_iret hx hb hr hlocks hP hS dX12_whence_262
          have hf := pbr_t c_4 hf
          refine lv_iload hx hb dX12_whence_255 (lv_at hl 4 rfl) ?_
          refine lv_goto (tgt := 262) hx hb dX12_whence_257 (by decide) ?_
          obtain ⟨rfl, rfl, rfl, rfl⟩ := pe4 hf
          exact m_iret hx hb hr hlocks hP hS dX12_whence_262
        have hf := pbr_t c_3 hf
        refine lv_iload hx hb dX12_whence_245 (lv_at hl 3 rfl) ?_
        refine lv_goto (tgt := 262) hx hb dX12_whence_247 (by decide) ?_
        obtain ⟨rfl, rfl, rfl, rfl⟩ := pe4 hf
        exact m_iret hx hb hr hlocks hP hS dX12_whence_262
      have hf := pbr_t c_2 hf
      refine lv_iload hx hb dX12_whence_235 (lv_at hl 2 rfl) ?_
      refine lv_goto (tgt := 262) hx hb dX12_whence_237 (by decide) ?_
      obtain ⟨rfl, rfl, rfl, rfl⟩ := pe4 hf
      exact m_iret hx hb hr hlocks hP hS dX12_whence_262
    have hf := pbr_f c_1 hf
    refine lv_aload_n hx hb dX12_whence_141 rfl (lv_at hl 0 rfl) ?_
    refine lv_iload hx hb dX12_whence_142 (lv_at hl 6 rfl) ?_
    obtain ⟨⟨r_5, earliest_6, latest_7⟩, hc_8, hf⟩ := pcl_e hf
    refine m_callV2 (As := [.int x8]) (rest := []) ⟨hx, hb, hml, hown, hts⟩ hX (ct_X12_beginsOf l D cA x8 a0 q_books q_told q_far q_tune q_depths q_text q_years q_months q_ring q_woods q_ends q_wood q_sheets q_marsh q_oldest q_youngest q_knowns q_known q_weight q_chance q_digs q_draft q_isKept s_trace s_typed s_earliest s_latest s_firstYear s_rings s_books s_told s_far s_tune s_depths r_5 earliest_6 latest_7 hc_8) (cwV 1 hts gX12_whence_X12_beginsOf rfl rfl rfl (by decide +kernel) ⟨Nat.le_of_ble_eq_true rfl, Nat.le_of_ble_eq_true rfl⟩) hP hD hS hA [0, 1, 5, 3, 4, 2] [] 6 (by decide) rfl rfl (WS' := (w_X12_whence a0 q_books q_depths q_far q_tune q_told q_text q_years q_months q_ring q_woods q_ends q_wood q_sheets q_marsh q_oldest q_youngest q_knowns q_known q_weight q_chance q_digs q_draft q_isKept cA s_trace s_typed earliest_6 latest_7 s_firstYear s_rings s_books s_depths s_far s_tune s_told)) (WR := []) rfl rfl rfl rfl (by decide) (by decide) 0 12 rfl rfl rfl hl.1 rfl (st' := [.int r_5]) rfl (Nat.le_of_ble_eq_true rfl) ⟨Nat.zero_le _, Nat.zero_le _⟩ dX12_whence_144 (fun H locs hP hD hS => ?_)
    refine lv_if_le (tgt := 224) hx hb dX12_whence_147 (by decide) (fun c_9 => ?_) (fun c_9 => ?_)
    · have hf := pbr_t c_9 hf
      obtain ⟨x8_10, ex8_10⟩ : ∃ z : Int32, z = x8 + (1 : Int32) := ⟨_, rfl⟩
      have hf := plt_e ex8_10 hf
      refine lv_iinc (v := x8_10) (lv' := [(8, .int x8_10), (0, .ref a0), (1, .int x1), (4, .int x4), (5, .int x5), (6, .int x6), (7, .int x7)]) hx hb dX12_whence_224 hl (k := 6) rfl (by rw [ex8_10]; rfl) (by decide) rfl (fun ls hl => ?_)
      refine lv_goto (tgt := 134) hx hb dX12_whence_227 (by decide) ?_
      exact ih x4 x5 x6 x7 x8_10 earliest_6 latest_7 s_far hf _ _ hP hD hS ls (lv_sub hl [1, 2, 3, 4, 5, 6, 0] rfl)
    have hf := pbr_f c_9 hf
    refine lv_iload hx hb dX12_whence_150 (lv_at hl 2 rfl) ?_
    refine lv_bipush (v := (-9 : Int32)) hx hb dX12_whence_152 (by decide) ?_
    refine lv_icmp_eq (tgt := 166) hx hb dX12_whence_154 (by decide) (fun c_11 => ?_) (fun c_11 => ?_)
    · have hf := pbr_t c_11 hf
      exact k_X12_whence_166 ⟨hx, hb, hml, hown, hts, hr, hlocks, hX⟩ hA ih x4 x7 x8 earliest_6 latest_7 s_far hf _ _ hP hD hS ls (lv_sub hl [0, 1, 2, 5, 6] rfl)
    have hf := pbr_f c_11 hf
    refine lv_aload_n hx hb dX12_whence_157 rfl (lv_at hl 0 rfl) ?_
    refine va_get (D := D) (ci := 12) (v := .int earliest_6) (C := RX12) (T := TX12) (N := 29) hx hb hts hn_X12_whence_X12 hown hK hP 0 rfl rfl 8 (by decide) (hts _ hw_X12_whence_f123) (fun _ h9 => h9) rfl dX12_whence_158 ?_
    refine lv_iload hx hb dX12_whence_161 (lv_at hl 4 rfl) ?_
    refine lv_icmp_ge (tgt := 173) hx hb dX12_whence_163 (by decide) (fun c_12 => ?_) (fun c_12 => ?_)
    · have hf := pbr_t c_12 hf
      refine lv_iload hx hb dX12_whence_173 (lv_at hl 4 rfl) ?_
      exact k_X12_whence_175 ⟨hx, hb, hml, hown, hts, hr, hlocks, hX⟩ hA ih x4 x7 x8 x6 earliest_6 latest_7 s_far hf _ _ hP hD hS ls (lv_sub hl [0, 1, 2, 5, 6] rfl)
    have hf := pbr_f c_12 hf
    exact k_X12_whence_166 ⟨hx, hb, hml, hown, hts, hr, hlocks, hX⟩ hA ih x4 x7 x8 earliest_6 latest_7 s_far hf _ _ hP hD hS ls (lv_sub hl [0, 1, 2, 5, 6] rfl)

def f_X12_whence_99 (s_books : Nat → Int32) (s_depths : Nat → Int32) (s_tune : Nat → Int32) (s_told : Nat → Int32) (x1 : Int32) (x2 : Int32) (s_earliest : Int32) (s_latest : Int32) (s_far : Nat → Int32) : Option ((Int32) × (Int32) × (Int32) × (Nat → Int32)) :=
  pbr (x2 = (-9 : Int32))
    (some ((-1000000 : Int32), s_earliest, s_latest, s_far))
    (some (x2, s_earliest, s_latest, s_far))

set_option maxRecDepth 100000 in
set_option maxHeartbeats 4000000 in
theorem k_X12_whence_99 {p : Program} {l : Launch} {e : Env} {s : State} {m : MethodId} {args : Array Value} {below : List Frame} {meth : Method} {c : Code} {A : Nat → Prop} {D : va_G} {cA : Nat → ClassId} (C0 : MX p s m args meth c cX12_whence 9 wsX12_whence RX12 (some .int) D cA) (hA : ∀ q, s.heap.size ≤ q → A q) {a0 : Nat} {q_books : Nat} {q_depths : Nat} {q_far : Nat} {q_tune : Nat} {q_told : Nat} {q_text : Nat} {q_years : Nat} {q_months : Nat} {q_ring : Nat} {q_woods : Nat} {q_ends : Nat} {q_wood : Nat} {q_sheets : Nat} {q_marsh : Nat} {q_oldest : Nat} {q_youngest : Nat} {q_knowns : Nat} {q_known : Nat} {q_weight : Nat} {q_chance : Nat} {q_digs : Nat} {q_draft : Nat} {q_isKept : Nat} {s_trace : Int64} {s_typed : Int32} {s_firstYear : Int32} {s_rings : Int32} {s_books : Nat → Int32} {s_depths : Nat → Int32} {s_tune : Nat → Int32} {s_told : Nat → Int32} {x1 : Int32} {o_r : Int32} {o_earliest : Int32} {o_latest : Int32} {o_far : Nat → Int32} : ∀ (x2 : Int32) (s_earliest : Int32) (s_latest : Int32) (s_far : Nat → Int32), f_X12_whence_99 s_books s_depths s_tune s_told x1 x2 s_earliest s_latest s_far = some (o_r, o_earliest, o_latest, o_far) → ∀ (H : Heap) (locs : List Loc), va_P D vwCl (w_X12_whence a0 q_books q_depths q_far q_tune q_told q_text q_years q_months q_ring q_woods q_ends q_wood q_sheets q_marsh q_oldest q_youngest q_knowns q_known q_weight q_chance q_digs q_draft q_isKept cA s_trace s_typed s_earliest s_latest s_firstYear s_rings s_books s_depths s_far s_tune s_told) H → va_D A (w_X12_whence a0 q_books q_depths q_far q_tune q_told q_text q_years q_months q_ring q_woods q_ends q_wood q_sheets q_marsh q_oldest q_youngest q_knowns q_known q_weight q_chance q_digs q_draft q_isKept cA s_trace s_typed s_earliest s_latest s_firstYear s_rings s_books s_depths s_far s_tune s_told) → va_S A s.heap H locs → ∀ ls : Array Slot, lv_has ls 9 [(2, .int x2)] → W p l e rm_X12_whence s m args below meth c H locs 0 0 (MQ below (CQ D (some (.int o_r)) (w_X12_whence a0 q_books q_depths q_far q_tune q_told q_text q_years q_months q_ring q_woods q_ends q_wood q_sheets q_marsh q_oldest q_youngest q_knowns q_known q_weight q_chance q_digs q_draft q_isKept cA s_trace s_typed o_earliest o_latest s_firstYear s_rings s_books s_depths o_far s_tune s_told) A) args s 0 0 A) (F0 m 99 ls []) := by
  obtain ⟨hx, hb, hml, hown, hts, hr, hlocks, hX⟩ := C0
  have hK := hX.1
  have hN := hX.2
  intro x2 s_earliest s_latest s_far hf H locs hP hD hS ls hl
  unfold f_X12_whence_99 at hf
  refine lv_iload_n hx hb dX12_whence_99 rfl (lv_at hl 0 rfl) ?_
  refine lv_bipush (v := (-9 : Int32)) hx hb dX12_whence_100 (by decide) ?_
  refine lv_icmp_ne (tgt := 110) hx hb dX12_whence_102 (by decide) (fun c_1 => ?_) (fun c_1 => ?_)
  · have hf := pbr_f c_1 hf
    refine lv_iload_n hx hb dX12_whence_110 rfl (lv_at hl 0 rfl) ?_
    obtain ⟨rfl, rfl, rfl, rfl⟩ := pe4 hf
    exact m_iret hx hb hr hlocks hP hS dX12_whence_111
  have hf := pbr_t c_1 hf
  refine lv_ldc (v := (-1000000 : Int32)) hx hb hown (hts _ hw_X12_whence_c122) dX12_whence_105 ?_
  refine lv_goto (tgt := 111) hx hb dX12_whence_107 (by decide) ?_
  obtain ⟨rfl, rfl, rfl, rfl⟩ := pe4 hf
  exact m_iret hx hb hr hlocks hP hS dX12_whence_111

def f_X12_whence_69 (r29 : (Int32) → (Int32) → (Int32) → (Int32) → (Int32) → (Nat → Int32) → Option ((Int32) × (Int32) × (Int32) × (Nat → Int32))) (s_books : Nat → Int32) (s_depths : Nat → Int32) (s_tune : Nat → Int32) (s_told : Nat → Int32) (x1 : Int32) (x3 : Int32) (x4 : Int32) (x5 : Int32) (z0 : Int32) (s_earliest : Int32) (s_latest : Int32) (s_far : Nat → Int32) : Option ((Int32) × (Int32) × (Int32) × (Nat → Int32)) :=
  pbr (x5 ≤ x3)
    (plt (x4 + (1 : Int32) : Int32) (fun x4_2 => (
    r29 z0 x3 x4_2 s_earliest s_latest s_far)))
    (plt (x4 + (1 : Int32) : Int32) (fun x4_3 => (
    r29 z0 x5 x4_3 s_earliest s_latest s_far)))

set_option maxRecDepth 100000 in
set_option maxHeartbeats 4000000 in
theorem k_X12_whence_69 {p : Program} {l : Launch} {e : Env} {s : State} {m : MethodId} {args : Array Value} {below : List Frame} {meth : Method} {c : Code} {A : Nat → Prop} {D : va_G} {cA : Nat → ClassId} (C0 : MX p s m args meth c cX12_whence 9 wsX12_whence RX12 (some .int) D cA) (hA : ∀ q, s.heap.size ≤ q → A q) {a0 : Nat} {q_books : Nat} {q_depths : Nat} {q_far : Nat} {q_tune : Nat} {q_told : Nat} {q_text : Nat} {q_years : Nat} {q_months : Nat} {q_ring : Nat} {q_woods : Nat} {q_ends : Nat} {q_wood : Nat} {q_sheets : Nat} {q_marsh : Nat} {q_oldest : Nat} {q_youngest : Nat} {q_knowns : Nat} {q_known : Nat} {q_weight : Nat} {q_chance : Nat} {q_digs : Nat} {q_draft : Nat} {q_isKept : Nat} {s_trace : Int64} {s_typed : Int32} {s_firstYear : Int32} {s_rings : Int32} {s_books : Nat → Int32} {s_depths : Nat → Int32} {s_tune : Nat → Int32} {s_told : Nat → Int32} {x1 : Int32} {o_r : Int32} {o_earliest : Int32} {o_latest : Int32} {o_far : Nat → Int32} {r29 : (Int32) → (Int32) → (Int32) → (Int32) → (Int32) → (Nat → Int32) → Option ((Int32) × (Int32) × (Int32) × (Nat → Int32))} (hr29 : ∀ (x2 : Int32) (x3 : Int32) (x4 : Int32) (s_earliest : Int32) (s_latest : Int32) (s_far : Nat → Int32), r29 x2 x3 x4 s_earliest s_latest s_far = some (o_r, o_earliest, o_latest, o_far) → ∀ (H : Heap) (locs : List Loc), va_P D vwCl (w_X12_whence a0 q_books q_depths q_far q_tune q_told q_text q_years q_months q_ring q_woods q_ends q_wood q_sheets q_marsh q_oldest q_youngest q_knowns q_known q_weight q_chance q_digs q_draft q_isKept cA s_trace s_typed s_earliest s_latest s_firstYear s_rings s_books s_depths s_far s_tune s_told) H → va_D A (w_X12_whence a0 q_books q_depths q_far q_tune q_told q_text q_years q_months q_ring q_woods q_ends q_wood q_sheets q_marsh q_oldest q_youngest q_knowns q_known q_weight q_chance q_digs q_draft q_isKept cA s_trace s_typed s_earliest s_latest s_firstYear s_rings s_books s_depths s_far s_tune s_told) → va_S A s.heap H locs → ∀ ls : Array Slot, lv_has ls 9 [(0, .ref a0), (1, .int x1), (2, .int x2), (3, .int x3), (4, .int x4)] → W p l e rm_X12_whence s m args below meth c H locs 0 0 (MQ below (CQ D (some (.int o_r)) (w_X12_whence a0 q_books q_depths q_far q_tune q_told q_text q_years q_months q_ring q_woods q_ends q_wood q_sheets q_marsh q_oldest q_youngest q_knowns q_known q_weight q_chance q_digs q_draft q_isKept cA s_trace s_typed o_earliest o_latest s_firstYear s_rings s_books s_depths o_far s_tune s_told) A) args s 0 0 A) (F0 m 29 ls [])) : ∀ (x3 : Int32) (x4 : Int32) (x5 : Int32) (z0 : Int32) (s_earliest : Int32) (s_latest : Int32) (s_far : Nat → Int32), f_X12_whence_69 r29 s_books s_depths s_tune s_told x1 x3 x4 x5 z0 s_earliest s_latest s_far = some (o_r, o_earliest, o_latest, o_far) → ∀ (H : Heap) (locs : List Loc), va_P D vwCl (w_X12_whence a0 q_books q_depths q_far q_tune q_told q_text q_years q_months q_ring q_woods q_ends q_wood q_sheets q_marsh q_oldest q_youngest q_knowns q_known q_weight q_chance q_digs q_draft q_isKept cA s_trace s_typed s_earliest s_latest s_firstYear s_rings s_books s_depths s_far s_tune s_told) H → va_D A (w_X12_whence a0 q_books q_depths q_far q_tune q_told q_text q_years q_months q_ring q_woods q_ends q_wood q_sheets q_marsh q_oldest q_youngest q_knowns q_known q_weight q_chance q_digs q_draft q_isKept cA s_trace s_typed s_earliest s_latest s_firstYear s_rings s_books s_depths s_far s_tune s_told) → va_S A s.heap H locs → ∀ ls : Array Slot, lv_has ls 9 [(0, .ref a0), (1, .int x1), (3, .int x3), (4, .int x4), (5, .int x5)] → W p l e rm_X12_whence s m args below meth c H locs 0 0 (MQ below (CQ D (some (.int o_r)) (w_X12_whence a0 q_books q_depths q_far q_tune q_told q_text q_years q_months q_ring q_woods q_ends q_wood q_sheets q_marsh q_oldest q_youngest q_knowns q_known q_weight q_chance q_digs q_draft q_isKept cA s_trace s_typed o_earliest o_latest s_firstYear s_rings s_books s_depths o_far s_tune s_told) A) args s 0 0 A) (F0 m 69 ls [.int z0]) := by
  obtain ⟨hx, hb, hml, hown, hts, hr, hlocks, hX⟩ := C0
  have hK := hX.1
  have hN := hX.2
  intro x3 x4 x5 z0 s_earliest s_latest s_far hf H locs hP hD hS ls hl
  unfold f_X12_whence_69 at hf
  refine lv_istore_n (lv' := [(2, .int z0), (0, .ref a0), (1, .int x1), (3, .int x3), (4, .int x4), (5, .int x5)]) hx hb dX12_whence_69 rfl hl (by decide) rfl (fun ls hl => ?_)
  refine lv_iload hx hb dX12_whence_70 (lv_at hl 5 rfl) ?_
  refine lv_iload_n hx hb dX12_whence_72 rfl (lv_at hl 3 rfl) ?_
  refine lv_icmp_le (tgt := 81) hx hb dX12_whence_73 (by decide) (fun c_1 => ?_) (fun c_1 => ?_)
  · have hf := pbr_t c_1 hf
    refine lv_iload_n hx hb dX12_whence_81 rfl (lv_at hl 3 rfl) ?_
    refine lv_istore_n (lv' := [(3, .int x3), (2, .int z0), (0, .ref a0), (1, .int x1), (4, .int x4), (5, .int x5)]) hx hb dX12_whence_82 rfl hl (by decide) rfl (fun ls hl => ?_)
    obtain ⟨x4_2, ex4_2⟩ : ∃ z : Int32, z = x4 + (1 : Int32) := ⟨_, rfl⟩
    have hf := plt_e ex4_2 hf
    refine lv_iinc (v := x4_2) (lv' := [(4, .int x4_2), (3, .int x3), (2, .int z0), (0, .ref a0), (1, .int x1), (5, .int x5)]) hx hb dX12_whence_83 hl (k := 4) rfl (by rw [ex4_2]; rfl) (by decide) rfl (fun ls hl => ?_)
    refine lv_goto (tgt := 29) hx hb dX12_whence_86 (by decide) ?_
    exact hr29 z0 x3 x4_2 s_earliest s_latest s_far hf _ _ hP hD hS ls (lv_sub hl [3, 4, 2, 1, 0] rfl)
  have hf := pbr_f c_1 hf
  refine lv_iload hx hb dX12_whence_76 (lv_at hl 5 rfl) ?_
  refine lv_goto (tgt := 82) hx hb dX12_whence_78 (by decide) ?_
  refine lv_istore_n (lv' := [(3, .int x5), (2, .int z0), (0, .ref a0), (1, .int x1), (4, .int x4), (5, .int x5)]) hx hb dX12_whence_82 rfl hl (by decide) rfl (fun ls hl => ?_)
  obtain ⟨x4_3, ex4_3⟩ : ∃ z : Int32, z = x4 + (1 : Int32) := ⟨_, rfl⟩
  have hf := plt_e ex4_3 hf
  refine lv_iinc (v := x4_3) (lv' := [(4, .int x4_3), (3, .int x5), (2, .int z0), (0, .ref a0), (1, .int x1), (5, .int x5)]) hx hb dX12_whence_83 hl (k := 4) rfl (by rw [ex4_3]; rfl) (by decide) rfl (fun ls hl => ?_)
  refine lv_goto (tgt := 29) hx hb dX12_whence_86 (by decide) ?_
  exact hr29 z0 x5 x4_3 s_earliest s_latest s_far hf _ _ hP hD hS ls (lv_sub hl [3, 4, 2, 1, 0] rfl)

def f_X12_whence_55 (r29 : (Int32) → (Int32) → (Int32) → (Int32) → (Int32) → (Nat → Int32) → Option ((Int32) × (Int32) × (Int32) × (Nat → Int32))) (s_books : Nat → Int32) (s_depths : Nat → Int32) (s_tune : Nat → Int32) (s_told : Nat → Int32) (x1 : Int32) (x2 : Int32) (x3 : Int32) (x4 : Int32) (z0 : Int32) (s_earliest : Int32) (s_latest : Int32) (s_far : Nat → Int32) : Option ((Int32) × (Int32) × (Int32) × (Nat → Int32)) :=
  pbr (z0 ≤ x3)
    (f_X12_whence_69 r29 s_books s_depths s_tune s_told x1 x3 x4 z0 x2 s_earliest s_latest s_far)
    (f_X12_whence_69 r29 s_books s_depths s_tune s_told x1 x3 x4 z0 x4 s_earliest s_latest s_far)

set_option maxRecDepth 100000 in
set_option maxHeartbeats 4000000 in
theorem k_X12_whence_55 {p : Program} {l : Launch} {e : Env} {s : State} {m : MethodId} {args : Array Value} {below : List Frame} {meth : Method} {c : Code} {A : Nat → Prop} {D : va_G} {cA : Nat → ClassId} (C0 : MX p s m args meth c cX12_whence 9 wsX12_whence RX12 (some .int) D cA) (hA : ∀ q, s.heap.size ≤ q → A q) {a0 : Nat} {q_books : Nat} {q_depths : Nat} {q_far : Nat} {q_tune : Nat} {q_told : Nat} {q_text : Nat} {q_years : Nat} {q_months : Nat} {q_ring : Nat} {q_woods : Nat} {q_ends : Nat} {q_wood : Nat} {q_sheets : Nat} {q_marsh : Nat} {q_oldest : Nat} {q_youngest : Nat} {q_knowns : Nat} {q_known : Nat} {q_weight : Nat} {q_chance : Nat} {q_digs : Nat} {q_draft : Nat} {q_isKept : Nat} {s_trace : Int64} {s_typed : Int32} {s_firstYear : Int32} {s_rings : Int32} {s_books : Nat → Int32} {s_depths : Nat → Int32} {s_tune : Nat → Int32} {s_told : Nat → Int32} {x1 : Int32} {o_r : Int32} {o_earliest : Int32} {o_latest : Int32} {o_far : Nat → Int32} {r29 : (Int32) → (Int32) → (Int32) → (Int32) → (Int32) → (Nat → Int32) → Option ((Int32) × (Int32) × (Int32) × (Nat → Int32))} (hr29 : ∀ (x2 : Int32) (x3 : Int32) (x4 : Int32) (s_earliest : Int32) (s_latest : Int32) (s_far : Nat → Int32), r29 x2 x3 x4 s_earliest s_latest s_far = some (o_r, o_earliest, o_latest, o_far) → ∀ (H : Heap) (locs : List Loc), va_P D vwCl (w_X12_whence a0 q_books q_depths q_far q_tune q_told q_text q_years q_months q_ring q_woods q_ends q_wood q_sheets q_marsh q_oldest q_youngest q_knowns q_known q_weight q_chance q_digs q_draft q_isKept cA s_trace s_typed s_earliest s_latest s_firstYear s_rings s_books s_depths s_far s_tune s_told) H → va_D A (w_X12_whence a0 q_books q_depths q_far q_tune q_told q_text q_years q_months q_ring q_woods q_ends q_wood q_sheets q_marsh q_oldest q_youngest q_knowns q_known q_weight q_chance q_digs q_draft q_isKept cA s_trace s_typed s_earliest s_latest s_firstYear s_rings s_books s_depths s_far s_tune s_told) → va_S A s.heap H locs → ∀ ls : Array Slot, lv_has ls 9 [(0, .ref a0), (1, .int x1), (2, .int x2), (3, .int x3), (4, .int x4)] → W p l e rm_X12_whence s m args below meth c H locs 0 0 (MQ below (CQ D (some (.int o_r)) (w_X12_whence a0 q_books q_depths q_far q_tune q_told q_text q_years q_months q_ring q_woods q_ends q_wood q_sheets q_marsh q_oldest q_youngest q_knowns q_known q_weight q_chance q_digs q_draft q_isKept cA s_trace s_typed o_earliest o_latest s_firstYear s_rings s_books s_depths o_far s_tune s_told) A) args s 0 0 A) (F0 m 29 ls [])) : ∀ (x2 : Int32) (x3 : Int32) (x4 : Int32) (z0 : Int32) (s_earliest : Int32) (s_latest : Int32) (s_far : Nat → Int32), f_X12_whence_55 r29 s_books s_depths s_tune s_told x1 x2 x3 x4 z0 s_earliest s_latest s_far = some (o_r, o_earliest, o_latest, o_far) → ∀ (H : Heap) (locs : List Loc), va_P D vwCl (w_X12_whence a0 q_books q_depths q_far q_tune q_told q_text q_years q_months q_ring q_woods q_ends q_wood q_sheets q_marsh q_oldest q_youngest q_knowns q_known q_weight q_chance q_digs q_draft q_isKept cA s_trace s_typed s_earliest s_latest s_firstYear s_rings s_books s_depths s_far s_tune s_told) H → va_D A (w_X12_whence a0 q_books q_depths q_far q_tune q_told q_text q_years q_months q_ring q_woods q_ends q_wood q_sheets q_marsh q_oldest q_youngest q_knowns q_known q_weight q_chance q_digs q_draft q_isKept cA s_trace s_typed s_earliest s_latest s_firstYear s_rings s_books s_depths s_far s_tune s_told) → va_S A s.heap H locs → ∀ ls : Array Slot, lv_has ls 9 [(0, .ref a0), (1, .int x1), (2, .int x2), (3, .int x3), (4, .int x4)] → W p l e rm_X12_whence s m args below meth c H locs 0 0 (MQ below (CQ D (some (.int o_r)) (w_X12_whence a0 q_books q_depths q_far q_tune q_told q_text q_years q_months q_ring q_woods q_ends q_wood q_sheets q_marsh q_oldest q_youngest q_knowns q_known q_weight q_chance q_digs q_draft q_isKept cA s_trace s_typed o_earliest o_latest s_firstYear s_rings s_books s_depths o_far s_tune s_told) A) args s 0 0 A) (F0 m 55 ls [.int z0]) := by
  obtain ⟨hx, hb, hml, hown, hts, hr, hlocks, hX⟩ := C0
  have hK := hX.1
  have hN := hX.2
  intro x2 x3 x4 z0 s_earliest s_latest s_far hf H locs hP hD hS ls hl
  unfold f_X12_whence_55 at hf
  refine lv_istore (lv' := [(5, .int z0), (0, .ref a0), (1, .int x1), (2, .int x2), (3, .int x3), (4, .int x4)]) hx hb dX12_whence_55 hl (by decide) rfl (fun ls hl => ?_)
  refine lv_iload hx hb dX12_whence_57 (lv_at hl 0 rfl) ?_
  refine lv_iload_n hx hb dX12_whence_59 rfl (lv_at hl 4 rfl) ?_
  refine lv_icmp_le (tgt := 68) hx hb dX12_whence_60 (by decide) (fun c_1 => ?_) (fun c_1 => ?_)
  · have hf := pbr_t c_1 hf
    refine lv_iload_n hx hb dX12_whence_68 rfl (lv_at hl 3 rfl) ?_
    exact k_X12_whence_69 ⟨hx, hb, hml, hown, hts, hr, hlocks, hX⟩ hA hr29 x3 x4 z0 x2 s_earliest s_latest s_far hf _ _ hP hD hS ls (lv_sub hl [1, 2, 4, 5, 0] rfl)
  have hf := pbr_f c_1 hf
  refine lv_iload hx hb dX12_whence_63 (lv_at hl 5 rfl) ?_
  refine lv_goto (tgt := 69) hx hb dX12_whence_65 (by decide) ?_
  exact k_X12_whence_69 ⟨hx, hb, hml, hown, hts, hr, hlocks, hX⟩ hA hr29 x3 x4 z0 x4 s_earliest s_latest s_far hf _ _ hP hD hS ls (lv_sub hl [1, 2, 4, 5, 0] rfl)

def f_X12_whence_29 (s_books : Nat → Int32) (s_depths : Nat → Int32) (s_tune : Nat → Int32) (s_told : Nat → Int32) (x1 : Int32) : Nat → (Int32) → (Int32) → (Int32) → (Int32) → (Int32) → (Nat → Int32) → Option ((Int32) × (Int32) × (Int32) × (Nat → Int32))
  | 0, _, _, _, _, _, _ => none
  | k + 1, x2, x3, x4, s_earliest, s_latest, s_far =>
    pbr ((48 : Int32) ≤ x4)
      (pbr (x2 = (-9 : Int32))
        (f_X12_whence_99 s_books s_depths s_tune s_told x1 x2 s_earliest s_latest s_far)
        (pbr (x1 = 0)
          (f_X12_whence_99 s_books s_depths s_tune s_told x1 x2 s_earliest s_latest s_far)
          (pcl (f_X12_begin x2 s_depths s_far s_tune) (fun far_4 => (
          f_X12_whence_134 s_books s_depths s_tune s_told x1 FU (-9 : Int32) (-9 : Int32) (0 : Int32) (0 : Int32) (1 : Int32) s_earliest s_latest far_4)))))
      (pcl (f_X12_isSea x4 s_depths) (fun r_6 => (
      pbr (r_6 = 0)
        (f_X12_whence_55 (f_X12_whence_29 s_books s_depths s_tune s_told x1 k) s_books s_depths s_tune s_told x1 x2 x3 x4 (0 : Int32) s_earliest s_latest s_far)
        (pcl (f_X12_waysOf x4 s_earliest s_latest s_depths s_far s_tune s_books s_told) (fun (r_9, earliest_10, latest_11, far_12) => (
        f_X12_whence_55 (f_X12_whence_29 s_books s_depths s_tune s_told x1 k) s_books s_depths s_tune s_told x1 x2 x3 x4 r_9 earliest_10 latest_11 far_12))))))

set_option maxRecDepth 100000 in
set_option maxHeartbeats 4000000 in
theorem k_X12_whence_29 {p : Program} {l : Launch} {e : Env} {s : State} {m : MethodId} {args : Array Value} {below : List Frame} {meth : Method} {c : Code} {A : Nat → Prop} {D : va_G} {cA : Nat → ClassId} (C0 : MX p s m args meth c cX12_whence 9 wsX12_whence RX12 (some .int) D cA) (hA : ∀ q, s.heap.size ≤ q → A q) {a0 : Nat} {q_books : Nat} {q_depths : Nat} {q_far : Nat} {q_tune : Nat} {q_told : Nat} {q_text : Nat} {q_years : Nat} {q_months : Nat} {q_ring : Nat} {q_woods : Nat} {q_ends : Nat} {q_wood : Nat} {q_sheets : Nat} {q_marsh : Nat} {q_oldest : Nat} {q_youngest : Nat} {q_knowns : Nat} {q_known : Nat} {q_weight : Nat} {q_chance : Nat} {q_digs : Nat} {q_draft : Nat} {q_isKept : Nat} {s_trace : Int64} {s_typed : Int32} {s_firstYear : Int32} {s_rings : Int32} {s_books : Nat → Int32} {s_depths : Nat → Int32} {s_tune : Nat → Int32} {s_told : Nat → Int32} {x1 : Int32} {o_r : Int32} {o_earliest : Int32} {o_latest : Int32} {o_far : Nat → Int32} : ∀ (k : Nat) (x2 : Int32) (x3 : Int32) (x4 : Int32) (s_earliest : Int32) (s_latest : Int32) (s_far : Nat → Int32), f_X12_whence_29 s_books s_depths s_tune s_told x1 k x2 x3 x4 s_earliest s_latest s_far = some (o_r, o_earliest, o_latest, o_far) → ∀ (H : Heap) (locs : List Loc), va_P D vwCl (w_X12_whence a0 q_books q_depths q_far q_tune q_told q_text q_years q_months q_ring q_woods q_ends q_wood q_sheets q_marsh q_oldest q_youngest q_knowns q_known q_weight q_chance q_digs q_draft q_isKept cA s_trace s_typed s_earliest s_latest s_firstYear s_rings s_books s_depths s_far s_tune s_told) H → va_D A (w_X12_whence a0 q_books q_depths q_far q_tune q_told q_text q_years q_months q_ring q_woods q_ends q_wood q_sheets q_marsh q_oldest q_youngest q_knowns q_known q_weight q_chance q_digs q_draft q_isKept cA s_trace s_typed s_earliest s_latest s_firstYear s_rings s_books s_depths s_far s_tune s_told) → va_S A s.heap H locs → ∀ ls : Array Slot, lv_has ls 9 [(0, .ref a0), (1, .int x1), (2, .int x2), (3, .int x3), (4, .int x4)] → W p l e rm_X12_whence s m args below meth c H locs 0 0 (MQ below (CQ D (some (.int o_r)) (w_X12_whence a0 q_books q_depths q_far q_tune q_told q_text q_years q_months q_ring q_woods q_ends q_wood q_sheets q_marsh q_oldest q_youngest q_knowns q_known q_weight q_chance q_digs q_draft q_isKept cA s_trace s_typed o_earliest o_latest s_firstYear s_rings s_books s_depths o_far s_tune s_told) A) args s 0 0 A) (F0 m 29 ls []) := by
  obtain ⟨hx, hb, hml, hown, hts, hr, hlocks, hX⟩ := C0
  have hK := hX.1
  have hN := hX.2
  intro k
  induction k with
  | zero =>
    intro x2 x3 x4 s_earliest s_latest s_far hf
    cases hf
  | succ k ih =>
    intro x2 x3 x4 s_earliest s_latest s_far hf H locs hP hD hS ls hl
    rw [f_X12_whence_29] at hf
    refine lv_iload hx hb dX12_whence_29 (lv_at hl 4 rfl) ?_
    refine lv_bipush (v := (48 : Int32)) hx hb dX12_whence_31 (by decide) ?_
    refine lv_icmp_ge (tgt := 89) hx hb dX12_whence_33 (by decide) (fun c_1 => ?_) (fun c_1 => ?_)
    · have hf := pbr_t c_1 hf
      refine lv_iload_n hx hb dX12_whence_89 rfl (lv_at hl 2 rfl) ?_
      refine lv_bipush (v := (-9 : Int32)) hx hb dX12_whence_90 (by decide) ?_
      refine lv_icmp_eq (tgt := 99) hx hb dX12_whence_92 (by decide) (fun c_2 => ?_) (fun c_2 => ?_)
      · have hf := pbr_t c_2 hf
        exact k_X12_whence_99 ⟨hx, hb, hml, hown, hts, hr, hlocks, hX⟩ hA x2 s_earliest s_latest s_far hf _ _ hP hD hS ls (lv_sub hl [2] rfl)
      have hf := pbr_f c_2 hf
      refine lv_iload_n hx hb dX12_whence_95 rfl (lv_at hl 1 rfl) ?_
      refine lv_if_ne (tgt := 112) hx hb dX12_whence_96 (by decide) (fun c_3 => ?_) (fun c_3 => ?_)
      · have hf := pbr_f c_3 hf
        refine lv_aload_n hx hb dX12_whence_112 rfl (lv_at hl 0 rfl) ?_
        refine lv_iload_n hx hb dX12_whence_113 rfl (lv_at hl 2 rfl) ?_
        obtain ⟨far_4, hc_5, hf⟩ := pcl_e hf
        refine m_callV2 (As := [.int x2]) (rest := []) ⟨hx, hb, hml, hown, hts⟩ hX (ct_X12_begin l D cA x2 a0 q_depths q_far q_tune q_text q_books q_told q_years q_months q_ring q_woods q_ends q_wood q_sheets q_marsh q_oldest q_youngest q_knowns q_known q_weight q_chance q_digs q_draft q_isKept s_trace s_typed s_earliest s_latest s_firstYear s_rings s_depths s_far s_tune far_4 hc_5) (cwV 1 hts gX12_whence_X12_begin rfl rfl rfl (by decide +kernel) ⟨Nat.le_of_ble_eq_true rfl, Nat.le_of_ble_eq_true rfl⟩) hP hD hS hA [0, 2, 3, 4] [1, 5] 6 (by decide) rfl rfl (WS' := (w_X12_whence a0 q_books q_depths q_far q_tune q_told q_text q_years q_months q_ring q_woods q_ends q_wood q_sheets q_marsh q_oldest q_youngest q_knowns q_known q_weight q_chance q_digs q_draft q_isKept cA s_trace s_typed s_earliest s_latest s_firstYear s_rings s_books s_depths far_4 s_tune s_told)) (WR := [(q_books, .inl (cA 1, 3, .inl s_books)), (q_told, .inl (cA 1, 90, .inl s_told))]) rfl rfl rfl rfl (by decide) (by decide) 0 12 rfl rfl rfl hl.1 rfl (st' := []) rfl (Nat.le_of_ble_eq_true rfl) ⟨Nat.zero_le _, Nat.zero_le _⟩ dX12_whence_114 (fun H locs hP hD hS => ?_)
        refine lv_bipush (v := (-9 : Int32)) hx hb dX12_whence_117 (by decide) ?_
        refine lv_istore (lv' := [(4, .int (-9 : Int32)), (0, .ref a0), (1, .int x1), (2, .int x2), (3, .int x3)]) hx hb dX12_whence_119 hl (by decide) rfl (fun ls hl => ?_)
        refine lv_bipush (v := (-9 : Int32)) hx hb dX12_whence_121 (by decide) ?_
        refine lv_istore (lv' := [(5, .int (-9 : Int32)), (4, .int (-9 : Int32)), (0, .ref a0), (1, .int x1), (2, .int x2), (3, .int x3)]) hx hb dX12_whence_123 hl (by decide) rfl (fun ls hl => ?_)
        refine lv_iconst (v := (0 : Int32)) hx hb dX12_whence_125 (by decide) ?_
        refine lv_istore (lv' := [(6, .int (0 : Int32)), (5, .int (-9 : Int32)), (4, .int (-9 : Int32)), (0, .ref a0), (1, .int x1), (2, .int x2), (3, .int x3)]) hx hb dX12_whence_126 hl (by decide) rfl (fun ls hl => ?_)
        refine lv_iconst (v := (0 : Int32)) hx hb dX12_whence_128 (by decide) ?_
        refine lv_istore (lv' := [(7, .int (0 : Int32)), (6, .int (0 : Int32)), (5, .int (-9 : Int32)), (4, .int (-9 : Int32)), (0, .ref a0), (1, .int x1), (2, .int x2), (3, .int x3)]) hx hb dX12_whence_129 hl (by decide) rfl (fun ls hl => ?_)
        refine lv_iconst (v := (1 : Int32)) hx hb dX12_whence_131 (by decide) ?_
        refine lv_istore (lv' := [(8, .int (1 : Int32)), (7, .int (0 : Int32)), (6, .int (0 : Int32)), (5, .int (-9 : Int32)), (4, .int (-9 : Int32)), (0, .ref a0), (1, .int x1), (2, .int x2), (3, .int x3)]) hx hb dX12_whence_132 hl (by decide) rfl (fun ls hl => ?_)
        exact k_X12_whence_134 ⟨hx, hb, hml, hown, hts, hr, hlocks, hX⟩ hA FU (-9 : Int32) (-9 : Int32) (0 : Int32) (0 : Int32) (1 : Int32) s_earliest s_latest far_4 hf _ _ hP hD hS ls (lv_sub hl [5, 6, 4, 3, 2, 1, 0] rfl)
      have hf := pbr_t c_3 hf
      exact k_X12_whence_99 ⟨hx, hb, hml, hown, hts, hr, hlocks, hX⟩ hA x2 s_earliest s_latest s_far hf _ _ hP hD hS ls (lv_sub hl [2] rfl)
    have hf := pbr_f c_1 hf
    refine lv_aload_n hx hb dX12_whence_36 rfl (lv_at hl 0 rfl) ?_
    refine lv_iload hx hb dX12_whence_37 (lv_at hl 4 rfl) ?_
    obtain ⟨r_6, hc_7, hf⟩ := pcl_e hf
    refine m_callV2 (As := [.int x4]) (rest := []) ⟨hx, hb, hml, hown, hts⟩ hX (ct_X12_isSea l D cA x4 a0 q_depths q_text q_tune q_far q_books q_told q_years q_months q_ring q_woods q_ends q_wood q_sheets q_marsh q_oldest q_youngest q_knowns q_known q_weight q_chance q_digs q_draft q_isKept s_trace s_typed s_earliest s_latest s_firstYear s_rings s_depths r_6 hc_7) (cwV 1 hts gX12_whence_X12_isSea rfl rfl rfl (by decide +kernel) ⟨Nat.le_of_ble_eq_true rfl, Nat.le_of_ble_eq_true rfl⟩) hP hD hS hA [0, 2] [1, 3, 4, 5] 6 (by decide) rfl rfl (WS' := (w_X12_whence a0 q_books q_depths q_far q_tune q_told q_text q_years q_months q_ring q_woods q_ends q_wood q_sheets q_marsh q_oldest q_youngest q_knowns q_known q_weight q_chance q_digs q_draft q_isKept cA s_trace s_typed s_earliest s_latest s_firstYear s_rings s_books s_depths s_far s_tune s_told)) (WR := [(q_books, .inl (cA 1, 3, .inl s_books)), (q_far, .inl (cA 1, 48, .inl s_far)), (q_tune, .inl (cA 1, 3, .inl s_tune)), (q_told, .inl (cA 1, 90, .inl s_told))]) rfl rfl rfl rfl (by decide) (by decide) 0 12 rfl rfl rfl hl.1 rfl (st' := [.int r_6]) rfl (Nat.le_of_ble_eq_true rfl) ⟨Nat.zero_le _, Nat.zero_le _⟩ dX12_whence_39 (fun H locs hP hD hS => ?_)
    refine lv_if_eq (tgt := 54) hx hb dX12_whence_42 (by decide) (fun c_8 => ?_) (fun c_8 => ?_)
    · have hf := pbr_t c_8 hf
      refine lv_iconst (v := (0 : Int32)) hx hb dX12_whence_54 (by decide) ?_
      exact k_X12_whence_55 ⟨hx, hb, hml, hown, hts, hr, hlocks, hX⟩ hA ih x2 x3 x4 (0 : Int32) s_earliest s_latest s_far hf _ _ hP hD hS ls (lv_sub hl [0, 1, 2, 3, 4] rfl)
    have hf := pbr_f c_8 hf
    refine lv_aload_n hx hb dX12_whence_45 rfl (lv_at hl 0 rfl) ?_
    refine lv_iload hx hb dX12_whence_46 (lv_at hl 4 rfl) ?_
    obtain ⟨⟨r_9, earliest_10, latest_11, far_12⟩, hc_13, hf⟩ := pcl_e hf
    refine m_callV2 (As := [.int x4]) (rest := []) ⟨hx, hb, hml, hown, hts⟩ hX (ct_X12_waysOf l D cA x4 a0 q_depths q_far q_tune q_books q_told q_text q_years q_months q_ring q_woods q_ends q_wood q_sheets q_marsh q_oldest q_youngest q_knowns q_known q_weight q_chance q_digs q_draft q_isKept s_trace s_typed s_earliest s_latest s_firstYear s_rings s_depths s_far s_tune s_books s_told r_9 earliest_10 latest_11 far_12 hc_13) (cwV 1 hts gX12_whence_X12_waysOf rfl rfl rfl (by decide +kernel) ⟨Nat.le_of_ble_eq_true rfl, Nat.le_of_ble_eq_true rfl⟩) hP hD hS hA [0, 2, 3, 4, 1, 5] [] 6 (by decide) rfl rfl (WS' := (w_X12_whence a0 q_books q_depths q_far q_tune q_told q_text q_years q_months q_ring q_woods q_ends q_wood q_sheets q_marsh q_oldest q_youngest q_knowns q_known q_weight q_chance q_digs q_draft q_isKept cA s_trace s_typed earliest_10 latest_11 s_firstYear s_rings s_books s_depths far_12 s_tune s_told)) (WR := []) rfl rfl rfl rfl (by decide) (by decide) 0 12 rfl rfl rfl hl.1 rfl (st' := [.int r_9]) rfl (Nat.le_of_ble_eq_true rfl) ⟨Nat.zero_le _, Nat.zero_le _⟩ dX12_whence_48 (fun H locs hP hD hS => ?_)
    refine lv_goto (tgt := 55) hx hb dX12_whence_51 (by decide) ?_
    exact k_X12_whence_55 ⟨hx, hb, hml, hown, hts, hr, hlocks, hX⟩ hA ih x2 x3 x4 r_9 earliest_10 latest_11 far_12 hf _ _ hP hD hS ls (lv_sub hl [0, 1, 2, 3, 4] rfl)

def f_X12_whence (x1 : Int32) (s_earliest : Int32) (s_latest : Int32) (s_books : Nat → Int32) (s_depths : Nat → Int32) (s_far : Nat → Int32) (s_tune : Nat → Int32) (s_told : Nat → Int32) : Option ((Int32) × (Int32) × (Int32) × (Nat → Int32)) :=
  pcl (f_X12_in x1 (0 : Int32) (4 : Int32)) (fun r_1 => (
  pbr (r_1 = 0)
    (some ((-1000000 : Int32), s_earliest, s_latest, s_far))
    (pbr ((s_books (0 : Int32).toNatClampNeg) = 0)
      (some ((-1000000 : Int32), s_earliest, s_latest, s_far))
      (f_X12_whence_29 s_books s_depths s_tune s_told x1 FU (-9 : Int32) (0 : Int32) (0 : Int32) s_earliest s_latest s_far))))

set_option maxRecDepth 100000 in
set_option maxHeartbeats 4000000 in
theorem ct_X12_whence (l : Launch) (D : va_G) (cA : Nat → ClassId) (x1 : Int32) (a0 : Nat) (q_books : Nat) (q_depths : Nat) (q_far : Nat) (q_tune : Nat) (q_told : Nat) (q_text : Nat) (q_years : Nat) (q_months : Nat) (q_ring : Nat) (q_woods : Nat) (q_ends : Nat) (q_wood : Nat) (q_sheets : Nat) (q_marsh : Nat) (q_oldest : Nat) (q_youngest : Nat) (q_knowns : Nat) (q_known : Nat) (q_weight : Nat) (q_chance : Nat) (q_digs : Nat) (q_draft : Nat) (q_isKept : Nat) (s_trace : Int64) (s_typed : Int32) (s_earliest : Int32) (s_latest : Int32) (s_firstYear : Int32) (s_rings : Int32) (s_books : Nat → Int32) (s_depths : Nat → Int32) (s_far : Nat → Int32) (s_tune : Nat → Int32) (s_told : Nat → Int32) (o_r : Int32) (o_earliest : Int32) (o_latest : Int32) (o_far : Nat → Int32) (hf : f_X12_whence x1 s_earliest s_latest s_books s_depths s_far s_tune s_told = some (o_r, o_earliest, o_latest, o_far)) : CT l yX12_whence wsX12_whence rm_X12_whence D cA [.ref a0, .int x1] (w_X12_whence a0 q_books q_depths q_far q_tune q_told q_text q_years q_months q_ring q_woods q_ends q_wood q_sheets q_marsh q_oldest q_youngest q_knowns q_known q_weight q_chance q_digs q_draft q_isKept cA s_trace s_typed s_earliest s_latest s_firstYear s_rings s_books s_depths s_far s_tune s_told) (w_X12_whence a0 q_books q_depths q_far q_tune q_told q_text q_years q_months q_ring q_woods q_ends q_wood q_sheets q_marsh q_oldest q_youngest q_knowns q_known q_weight q_chance q_digs q_draft q_isKept cA s_trace s_typed o_earliest o_latest s_firstYear s_rings s_books s_depths o_far s_tune s_told) (some (.int o_r)) := by
  refine CT.ofW (cc := cX12_whence) (maxL := 9) (ret := (some .int)) (by decide +kernel) rfl (Nat.le_of_ble_eq_true rfl) ?_
  intro p e s m below meth c A C0 hA hP hD ls hl
  have C0 : MX p s m [.ref a0, .int x1].toArray meth c cX12_whence 9 wsX12_whence RX12 (some .int) D cA := C0
  have hl : lv_has ls 9 [(0, .ref a0), (1, .int x1)] := hl
  obtain ⟨hx, hb, hml, hown, hts, hr, hlocks, hX⟩ := id C0
  have hK := hX.1
  have hN := hX.2
  have hS : va_S A s.heap s.heap [] := va_S.rf
  unfold f_X12_whence at hf
  refine lv_iload_n hx hb dX12_whence_0 rfl (lv_at hl 1 rfl) ?_
  refine lv_iconst (v := (0 : Int32)) hx hb dX12_whence_1 (by decide) ?_
  refine lv_iconst (v := (4 : Int32)) hx hb dX12_whence_2 (by decide) ?_
  obtain ⟨r_1, hc_2, hf⟩ := pcl_e hf
  refine m_callS2 (As := [.int x1, .int (0 : Int32), .int (4 : Int32)]) (rest := []) ⟨hx, hb, hml, hown, hts⟩ hX (ct_X12_in l D cA x1 (0 : Int32) (4 : Int32) r_1 hc_2) (va_cwS 3 hts gX12_whence_X12_in rfl rfl rfl (by decide +kernel) ⟨Nat.le_of_ble_eq_true rfl, Nat.le_of_ble_eq_true rfl⟩) hP hD hS hA [] [0, 1, 2, 3, 4, 5] 6 (by decide) rfl rfl (WS' := (w_X12_whence a0 q_books q_depths q_far q_tune q_told q_text q_years q_months q_ring q_woods q_ends q_wood q_sheets q_marsh q_oldest q_youngest q_knowns q_known q_weight q_chance q_digs q_draft q_isKept cA s_trace s_typed s_earliest s_latest s_firstYear s_rings s_books s_depths s_far s_tune s_told)) (WR := [(a0, .inr (12, [.long s_trace, .ref q_text, .int s_typed, .ref q_depths, .ref q_tune, .ref q_far, .ref q_books, .ref q_told, .int s_earliest, .int s_latest, .ref q_years, .ref q_months, .int s_firstYear, .int s_rings, .ref q_ring, .ref q_woods, .ref q_ends, .ref q_wood, .ref q_sheets, .ref q_marsh, .ref q_oldest, .ref q_youngest, .ref q_knowns, .ref q_known, .ref q_weight, .ref q_chance, .ref q_digs, .ref q_draft, .ref q_isKept])), (q_books, .inl (cA 1, 3, .inl s_books)), (q_depths, .inl (cA 1, 96, .inl s_depths)), (q_far, .inl (cA 1, 48, .inl s_far)), (q_tune, .inl (cA 1, 3, .inl s_tune)), (q_told, .inl (cA 1, 90, .inl s_told))]) rfl rfl rfl rfl (by decide) (by decide) rfl hl.1 rfl (st' := [.int r_1]) rfl (Nat.le_of_ble_eq_true rfl) ⟨Nat.zero_le _, Nat.zero_le _⟩ dX12_whence_3 (fun H locs hP hD hS => ?_)
  refine lv_if_eq (tgt := 18) hx hb dX12_whence_6 (by decide) (fun c_3 => ?_) (fun c_3 => ?_)
  · have hf := pbr_t c_3 hf
    refine lv_ldc (v := (-1000000 : Int32)) hx hb hown (hts _ hw_X12_whence_c122) dX12_whence_18 ?_
    obtain ⟨rfl, rfl, rfl, rfl⟩ := pe4 hf
    exact m_iret hx hb hr hlocks hP hS dX12_whence_20
  have hf := pbr_f c_3 hf
  refine lv_aload_n hx hb dX12_whence_9 rfl (lv_at hl 0 rfl) ?_
  refine va_get (D := D) (ci := 12) (v := .ref q_books) (C := RX12) (T := TX12) (N := 29) hx hb hts hn_X12_whence_X12 hown hK hP 0 rfl rfl 6 (by decide) (hts _ hw_X12_whence_f23) (fun _ h9 => h9) rfl dX12_whence_10 ?_
  refine lv_iconst (v := (0 : Int32)) hx hb dX12_whence_13 (by decide) ?_
  refine va_iald hx hb hK hP 1 1 rfl rfl (show pin (0 : Int32) 3 by decide +kernel) dX12_whence_14 ?_
  refine lv_if_ne (tgt := 21) hx hb dX12_whence_15 (by decide) (fun c_4 => ?_) (fun c_4 => ?_)
  · have hf := pbr_f c_4 hf
    refine lv_bipush (v := (-9 : Int32)) hx hb dX12_whence_21 (by decide) ?_
    refine lv_istore_n (lv' := [(2, .int (-9 : Int32)), (0, .ref a0), (1, .int x1)]) hx hb dX12_whence_23 rfl hl (by decide) rfl (fun ls hl => ?_)
    refine lv_iconst (v := (0 : Int32)) hx hb dX12_whence_24 (by decide) ?_
    refine lv_istore_n (lv' := [(3, .int (0 : Int32)), (2, .int (-9 : Int32)), (0, .ref a0), (1, .int x1)]) hx hb dX12_whence_25 rfl hl (by decide) rfl (fun ls hl => ?_)
    refine lv_iconst (v := (0 : Int32)) hx hb dX12_whence_26 (by decide) ?_
    refine lv_istore (lv' := [(4, .int (0 : Int32)), (3, .int (0 : Int32)), (2, .int (-9 : Int32)), (0, .ref a0), (1, .int x1)]) hx hb dX12_whence_27 hl (by decide) rfl (fun ls hl => ?_)
    exact k_X12_whence_29 C0 hA FU (-9 : Int32) (0 : Int32) (0 : Int32) s_earliest s_latest s_far hf _ _ hP hD hS ls (lv_sub hl [3, 4, 2, 1, 0] rfl)
  have hf := pbr_t c_4 hf
  refine lv_ldc (v := (-1000000 : Int32)) hx hb hown (hts _ hw_X12_whence_c122) dX12_whence_18 ?_
  obtain ⟨rfl, rfl, rfl, rfl⟩ := pe4 hf
  exact m_iret hx hb hr hlocks hP hS dX12_whence_20
