/-! ===== OrphanWaveModel.findBegins(I)V ===== -/
abbrev rm_X12_findBegins : Room := { frames := 2, cells := 0, slots := 0, locals := 45 }
abbrev w_X12_findBegins (a0 : Nat) (q_books : Nat) (q_told : Nat) (q_far : Nat) (q_tune : Nat) (q_depths : Nat) (q_text : Nat) (q_years : Nat) (q_months : Nat) (q_ring : Nat) (q_woods : Nat) (q_ends : Nat) (q_wood : Nat) (q_sheets : Nat) (q_marsh : Nat) (q_oldest : Nat) (q_youngest : Nat) (q_knowns : Nat) (q_known : Nat) (q_weight : Nat) (q_chance : Nat) (q_digs : Nat) (q_draft : Nat) (q_isKept : Nat) (cA : Nat → ClassId) (s_trace : Int64) (s_typed : Int32) (s_earliest : Int32) (s_latest : Int32) (s_firstYear : Int32) (s_rings : Int32) (s_books : Nat → Int32) (s_told : Nat → Int32) (s_far : Nat → Int32) (s_tune : Nat → Int32) (s_depths : Nat → Int32) : va_W := [(a0, .inr (12, [.long s_trace, .ref q_text, .int s_typed, .ref q_depths, .ref q_tune, .ref q_far, .ref q_books, .ref q_told, .int s_earliest, .int s_latest, .ref q_years, .ref q_months, .int s_firstYear, .int s_rings, .ref q_ring, .ref q_woods, .ref q_ends, .ref q_wood, .ref q_sheets, .ref q_marsh, .ref q_oldest, .ref q_youngest, .ref q_knowns, .ref q_known, .ref q_weight, .ref q_chance, .ref q_digs, .ref q_draft, .ref q_isKept])), (q_books, .inl (cA 1, 3, .inl s_books)), (q_told, .inl (cA 1, 90, .inl s_told)), (q_far, .inl (cA 1, 48, .inl s_far)), (q_tune, .inl (cA 1, 3, .inl s_tune)), (q_depths, .inl (cA 1, 96, .inl s_depths))]
theorem hn_X12_findBegins_X12 : ∀ w ∈ u_ws RX12 TX12 29, w ∈ wsX12_findBegins := by decide +kernel
theorem hw_X12_findBegins_c122 : Cond.constant RX12 122 (-1000000) ∈ wsX12_findBegins := by decide +kernel
theorem hw_X12_findBegins_f123 : Cond.fieldLink RX12 123 "OrphanWaveModel" "earliest" "I" ∈ wsX12_findBegins := by decide +kernel
theorem hw_X12_findBegins_c107 : Cond.constant RX12 107 (1000000) ∈ wsX12_findBegins := by decide +kernel
theorem hw_X12_findBegins_f126 : Cond.fieldLink RX12 126 "OrphanWaveModel" "latest" "I" ∈ wsX12_findBegins := by decide +kernel
theorem hw_X12_findBegins_f23 : Cond.fieldLink RX12 23 "OrphanWaveModel" "books" "[I" ∈ wsX12_findBegins := by decide +kernel
theorem hw_X12_findBegins_f26 : Cond.fieldLink RX12 26 "OrphanWaveModel" "told" "[I" ∈ wsX12_findBegins := by decide +kernel
theorem hw_X12_findBegins_f20 : Cond.fieldLink RX12 20 "OrphanWaveModel" "far" "[I" ∈ wsX12_findBegins := by decide +kernel

def f_X12_findBegins_160 (r14 : (Int32) → (Int32) → (Int32) → Option ((Int32) × (Int32))) (s_books : Nat → Int32) (s_told : Nat → Int32) (s_far : Nat → Int32) (s_tune : Nat → Int32) (s_depths : Nat → Int32) (x1 : Int32) (x2 : Int32) (x6 : Int32) (z1 : Int32) (s_earliest : Int32) (s_latest : Int32) : Option ((Int32) × (Int32)) :=
  pbr (s_latest ≤ x6)
    (plt (x2 + (1 : Int32) : Int32) (fun x2_2 => (
    r14 x2_2 z1 s_latest)))
    (plt (x2 + (1 : Int32) : Int32) (fun x2_3 => (
    r14 x2_3 z1 x6)))

set_option maxRecDepth 100000 in
set_option maxHeartbeats 4000000 in
theorem k_X12_findBegins_160 {p : Program} {l : Launch} {e : Env} {s : State} {m : MethodId} {args : Array Value} {below : List Frame} {meth : Method} {c : Code} {A : Nat → Prop} {D : va_G} {cA : Nat → ClassId} (C0 : MX p s m args meth c cX12_findBegins 7 wsX12_findBegins RX12 none D cA) (hA : ∀ q, s.heap.size ≤ q → A q) {a0 : Nat} {q_books : Nat} {q_told : Nat} {q_far : Nat} {q_tune : Nat} {q_depths : Nat} {q_text : Nat} {q_years : Nat} {q_months : Nat} {q_ring : Nat} {q_woods : Nat} {q_ends : Nat} {q_wood : Nat} {q_sheets : Nat} {q_marsh : Nat} {q_oldest : Nat} {q_youngest : Nat} {q_knowns : Nat} {q_known : Nat} {q_weight : Nat} {q_chance : Nat} {q_digs : Nat} {q_draft : Nat} {q_isKept : Nat} {s_trace : Int64} {s_typed : Int32} {s_firstYear : Int32} {s_rings : Int32} {s_books : Nat → Int32} {s_told : Nat → Int32} {s_far : Nat → Int32} {s_tune : Nat → Int32} {s_depths : Nat → Int32} {x1 : Int32} {o_earliest : Int32} {o_latest : Int32} {r14 : (Int32) → (Int32) → (Int32) → Option ((Int32) × (Int32))} (hr14 : ∀ (x2 : Int32) (s_earliest : Int32) (s_latest : Int32), r14 x2 s_earliest s_latest = some (o_earliest, o_latest) → ∀ (H : Heap) (locs : List Loc), va_P D vwCl (w_X12_findBegins a0 q_books q_told q_far q_tune q_depths q_text q_years q_months q_ring q_woods q_ends q_wood q_sheets q_marsh q_oldest q_youngest q_knowns q_known q_weight q_chance q_digs q_draft q_isKept cA s_trace s_typed s_earliest s_latest s_firstYear s_rings s_books s_told s_far s_tune s_depths) H → va_D A (w_X12_findBegins a0 q_books q_told q_far q_tune q_depths q_text q_years q_months q_ring q_woods q_ends q_wood q_sheets q_marsh q_oldest q_youngest q_knowns q_known q_weight q_chance q_digs q_draft q_isKept cA s_trace s_typed s_earliest s_latest s_firstYear s_rings s_books s_told s_far s_tune s_depths) → va_S A s.heap H locs → ∀ ls : Array Slot, lv_has ls 7 [(0, .ref a0), (1, .int x1), (2, .int x2)] → W p l e rm_X12_findBegins s m args below meth c H locs 0 0 (MQ below (CQ D none (w_X12_findBegins a0 q_books q_told q_far q_tune q_depths q_text q_years q_months q_ring q_woods q_ends q_wood q_sheets q_marsh q_oldest q_youngest q_knowns q_known q_weight q_chance q_digs q_draft q_isKept cA s_trace s_typed o_earliest o_latest s_firstYear s_rings s_books s_told s_far s_tune s_depths) A) args s 0 0 A) (F0 m 14 ls [])) : ∀ (x2 : Int32) (x6 : Int32) (z1 : Int32) (s_earliest : Int32) (s_latest : Int32), f_X12_findBegins_160 r14 s_books s_told s_far s_tune s_depths x1 x2 x6 z1 s_earliest s_latest = some (o_earliest, o_latest) → ∀ (H : Heap) (locs : List Loc), va_P D vwCl (w_X12_findBegins a0 q_books q_told q_far q_tune q_depths q_text q_years q_months q_ring q_woods q_ends q_wood q_sheets q_marsh q_oldest q_youngest q_knowns q_known q_weight q_chance q_digs q_draft q_isKept cA s_trace s_typed s_earliest s_latest s_firstYear s_rings s_books s_told s_far s_tune s_depths) H → va_D A (w_X12_findBegins a0 q_books q_told q_far q_tune q_depths q_text q_years q_months q_ring q_woods q_ends q_wood q_sheets q_marsh q_oldest q_youngest q_knowns q_known q_weight q_chance q_digs q_draft q_isKept cA s_trace s_typed s_earliest s_latest s_firstYear s_rings s_books s_told s_far s_tune s_depths) → va_S A s.heap H locs → ∀ ls : Array Slot, lv_has ls 7 [(0, .ref a0), (1, .int x1), (2, .int x2), (6, .int x6)] → W p l e rm_X12_findBegins s m args below meth c H locs 0 0 (MQ below (CQ D none (w_X12_findBegins a0 q_books q_told q_far q_tune q_depths q_text q_years q_months q_ring q_woods q_ends q_wood q_sheets q_marsh q_oldest q_youngest q_knowns q_known q_weight q_chance q_digs q_draft q_isKept cA s_trace s_typed o_earliest o_latest s_firstYear s_rings s_books s_told s_far s_tune s_depths) A) args s 0 0 A) (F0 m 160 ls [.int z1, .ref a0]) := by
  obtain ⟨hx, hb, hml, hown, hts, hr, hlocks, hX⟩ := C0
  have hK := hX.1
  have hN := hX.2
  intro x2 x6 z1 s_earliest s_latest hf H locs hP hD hS ls hl
  unfold f_X12_findBegins_160 at hf
  refine va_put (D := D) (ci := 12) (v := .int z1) (ty := .int) (C := RX12) (T := TX12) (N := 29) hx hb hts hn_X12_findBegins_X12 tyX12 tyX12_ok nmX12 hown hK hP hD hS 0 rfl rfl 8 (by decide) (hts _ hw_X12_findBegins_f123) (fun _ h9 => h9) rfl (by decide +kernel) rfl rfl (Nat.le_of_ble_eq_true rfl) dX12_findBegins_160 (fun H locs hP hD hS => ?_)
  have hP : va_P D vwCl (w_X12_findBegins a0 q_books q_told q_far q_tune q_depths q_text q_years q_months q_ring q_woods q_ends q_wood q_sheets q_marsh q_oldest q_youngest q_knowns q_known q_weight q_chance q_digs q_draft q_isKept cA s_trace s_typed z1 s_latest s_firstYear s_rings s_books s_told s_far s_tune s_depths) H := hP
  have hD : va_D A (w_X12_findBegins a0 q_books q_told q_far q_tune q_depths q_text q_years q_months q_ring q_woods q_ends q_wood q_sheets q_marsh q_oldest q_youngest q_knowns q_known q_weight q_chance q_digs q_draft q_isKept cA s_trace s_typed z1 s_latest s_firstYear s_rings s_books s_told s_far s_tune s_depths) := hD
  refine lv_aload_n hx hb dX12_findBegins_163 rfl (lv_at hl 0 rfl) ?_
  refine lv_iload hx hb dX12_findBegins_164 (lv_at hl 3 rfl) ?_
  refine lv_aload_n hx hb dX12_findBegins_166 rfl (lv_at hl 0 rfl) ?_
  refine va_get (D := D) (ci := 12) (v := .int s_latest) (C := RX12) (T := TX12) (N := 29) hx hb hts hn_X12_findBegins_X12 hown hK hP 0 rfl rfl 9 (by decide) (hts _ hw_X12_findBegins_f126) (fun _ h9 => h9) rfl dX12_findBegins_167 ?_
  refine lv_icmp_ge (tgt := 178) hx hb dX12_findBegins_170 (by decide) (fun c_1 => ?_) (fun c_1 => ?_)
  · have hf := pbr_t c_1 hf
    refine lv_aload_n hx hb dX12_findBegins_178 rfl (lv_at hl 0 rfl) ?_
    refine va_get (D := D) (ci := 12) (v := .int s_latest) (C := RX12) (T := TX12) (N := 29) hx hb hts hn_X12_findBegins_X12 hown hK hP 0 rfl rfl 9 (by decide) (hts _ hw_X12_findBegins_f126) (fun _ h9 => h9) rfl dX12_findBegins_179 ?_
    refine va_put (D := D) (ci := 12) (v := .int s_latest) (ty := .int) (C := RX12) (T := TX12) (N := 29) hx hb hts hn_X12_findBegins_X12 tyX12 tyX12_ok nmX12 hown hK hP hD hS 0 rfl rfl 9 (by decide) (hts _ hw_X12_findBegins_f126) (fun _ h9 => h9) rfl (by decide +kernel) rfl rfl (Nat.le_of_ble_eq_true rfl) dX12_findBegins_182 (fun H locs hP hD hS => ?_)
    have hP : va_P D vwCl (w_X12_findBegins a0 q_books q_told q_far q_tune q_depths q_text q_years q_months q_ring q_woods q_ends q_wood q_sheets q_marsh q_oldest q_youngest q_knowns q_known q_weight q_chance q_digs q_draft q_isKept cA s_trace s_typed z1 s_latest s_firstYear s_rings s_books s_told s_far s_tune s_depths) H := hP
    have hD : va_D A (w_X12_findBegins a0 q_books q_told q_far q_tune q_depths q_text q_years q_months q_ring q_woods q_ends q_wood q_sheets q_marsh q_oldest q_youngest q_knowns q_known q_weight q_chance q_digs q_draft q_isKept cA s_trace s_typed z1 s_latest s_firstYear s_rings s_books s_told s_far s_tune s_depths) := hD
    obtain ⟨x2_2, ex2_2⟩ : ∃ z : Int32, z = x2 + (1 : Int32) := ⟨_, rfl⟩
    have hf := plt_e ex2_2 hf
    refine lv_iinc (v := x2_2) (lv' := [(2, .int x2_2), (0, .ref a0), (1, .int x1), (6, .int x6)]) hx hb dX12_findBegins_185 hl (k := 2) rfl (by rw [ex2_2]; rfl) (by decide) rfl (fun ls hl => ?_)
    refine lv_goto (tgt := 14) hx hb dX12_findBegins_188 (by decide) ?_
    exact hr14 x2_2 z1 s_latest hf _ _ hP hD hS ls (lv_sub hl [1, 2, 0] rfl)
  have hf := pbr_f c_1 hf
  refine lv_iload hx hb dX12_findBegins_173 (lv_at hl 3 rfl) ?_
  refine lv_goto (tgt := 182) hx hb dX12_findBegins_175 (by decide) ?_
  refine va_put (D := D) (ci := 12) (v := .int x6) (ty := .int) (C := RX12) (T := TX12) (N := 29) hx hb hts hn_X12_findBegins_X12 tyX12 tyX12_ok nmX12 hown hK hP hD hS 0 rfl rfl 9 (by decide) (hts _ hw_X12_findBegins_f126) (fun _ h9 => h9) rfl (by decide +kernel) rfl rfl (Nat.le_of_ble_eq_true rfl) dX12_findBegins_182 (fun H locs hP hD hS => ?_)
  have hP : va_P D vwCl (w_X12_findBegins a0 q_books q_told q_far q_tune q_depths q_text q_years q_months q_ring q_woods q_ends q_wood q_sheets q_marsh q_oldest q_youngest q_knowns q_known q_weight q_chance q_digs q_draft q_isKept cA s_trace s_typed z1 x6 s_firstYear s_rings s_books s_told s_far s_tune s_depths) H := hP
  have hD : va_D A (w_X12_findBegins a0 q_books q_told q_far q_tune q_depths q_text q_years q_months q_ring q_woods q_ends q_wood q_sheets q_marsh q_oldest q_youngest q_knowns q_known q_weight q_chance q_digs q_draft q_isKept cA s_trace s_typed z1 x6 s_firstYear s_rings s_books s_told s_far s_tune s_depths) := hD
  obtain ⟨x2_3, ex2_3⟩ : ∃ z : Int32, z = x2 + (1 : Int32) := ⟨_, rfl⟩
  have hf := plt_e ex2_3 hf
  refine lv_iinc (v := x2_3) (lv' := [(2, .int x2_3), (0, .ref a0), (1, .int x1), (6, .int x6)]) hx hb dX12_findBegins_185 hl (k := 2) rfl (by rw [ex2_3]; rfl) (by decide) rfl (fun ls hl => ?_)
  refine lv_goto (tgt := 14) hx hb dX12_findBegins_188 (by decide) ?_
  exact hr14 x2_3 z1 x6 hf _ _ hP hD hS ls (lv_sub hl [1, 2, 0] rfl)

def f_X12_findBegins_139 (r14 : (Int32) → (Int32) → (Int32) → Option ((Int32) × (Int32))) (s_books : Nat → Int32) (s_told : Nat → Int32) (s_far : Nat → Int32) (s_tune : Nat → Int32) (s_depths : Nat → Int32) (x1 : Int32) (x2 : Int32) (x5 : Int32) (z0 : Int32) (s_earliest : Int32) (s_latest : Int32) : Option ((Int32) × (Int32)) :=
  pbr (x5 ≤ s_earliest)
    (f_X12_findBegins_160 r14 s_books s_told s_far s_tune s_depths x1 x2 z0 s_earliest s_earliest s_latest)
    (f_X12_findBegins_160 r14 s_books s_told s_far s_tune s_depths x1 x2 z0 x5 s_earliest s_latest)

set_option maxRecDepth 100000 in
set_option maxHeartbeats 4000000 in
theorem k_X12_findBegins_139 {p : Program} {l : Launch} {e : Env} {s : State} {m : MethodId} {args : Array Value} {below : List Frame} {meth : Method} {c : Code} {A : Nat → Prop} {D : va_G} {cA : Nat → ClassId} (C0 : MX p s m args meth c cX12_findBegins 7 wsX12_findBegins RX12 none D cA) (hA : ∀ q, s.heap.size ≤ q → A q) {a0 : Nat} {q_books : Nat} {q_told : Nat} {q_far : Nat} {q_tune : Nat} {q_depths : Nat} {q_text : Nat} {q_years : Nat} {q_months : Nat} {q_ring : Nat} {q_woods : Nat} {q_ends : Nat} {q_wood : Nat} {q_sheets : Nat} {q_marsh : Nat} {q_oldest : Nat} {q_youngest : Nat} {q_knowns : Nat} {q_known : Nat} {q_weight : Nat} {q_chance : Nat} {q_digs : Nat} {q_draft : Nat} {q_isKept : Nat} {s_trace : Int64} {s_typed : Int32} {s_firstYear : Int32} {s_rings : Int32} {s_books : Nat → Int32} {s_told : Nat → Int32} {s_far : Nat → Int32} {s_tune : Nat → Int32} {s_depths : Nat → Int32} {x1 : Int32} {o_earliest : Int32} {o_latest : Int32} {r14 : (Int32) → (Int32) → (Int32) → Option ((Int32) × (Int32))} (hr14 : ∀ (x2 : Int32) (s_earliest : Int32) (s_latest : Int32), r14 x2 s_earliest s_latest = some (o_earliest, o_latest) → ∀ (H : Heap) (locs : List Loc), va_P D vwCl (w_X12_findBegins a0 q_books q_told q_far q_tune q_depths q_text q_years q_months q_ring q_woods q_ends q_wood q_sheets q_marsh q_oldest q_youngest q_knowns q_known q_weight q_chance q_digs q_draft q_isKept cA s_trace s_typed s_earliest s_latest s_firstYear s_rings s_books s_told s_far s_tune s_depths) H → va_D A (w_X12_findBegins a0 q_books q_told q_far q_tune q_depths q_text q_years q_months q_ring q_woods q_ends q_wood q_sheets q_marsh q_oldest q_youngest q_knowns q_known q_weight q_chance q_digs q_draft q_isKept cA s_trace s_typed s_earliest s_latest s_firstYear s_rings s_books s_told s_far s_tune s_depths) → va_S A s.heap H locs → ∀ ls : Array Slot, lv_has ls 7 [(0, .ref a0), (1, .int x1), (2, .int x2)] → W p l e rm_X12_findBegins s m args below meth c H locs 0 0 (MQ below (CQ D none (w_X12_findBegins a0 q_books q_told q_far q_tune q_depths q_text q_years q_months q_ring q_woods q_ends q_wood q_sheets q_marsh q_oldest q_youngest q_knowns q_known q_weight q_chance q_digs q_draft q_isKept cA s_trace s_typed o_earliest o_latest s_firstYear s_rings s_books s_told s_far s_tune s_depths) A) args s 0 0 A) (F0 m 14 ls [])) : ∀ (x2 : Int32) (x5 : Int32) (z0 : Int32) (s_earliest : Int32) (s_latest : Int32), f_X12_findBegins_139 r14 s_books s_told s_far s_tune s_depths x1 x2 x5 z0 s_earliest s_latest = some (o_earliest, o_latest) → ∀ (H : Heap) (locs : List Loc), va_P D vwCl (w_X12_findBegins a0 q_books q_told q_far q_tune q_depths q_text q_years q_months q_ring q_woods q_ends q_wood q_sheets q_marsh q_oldest q_youngest q_knowns q_known q_weight q_chance q_digs q_draft q_isKept cA s_trace s_typed s_earliest s_latest s_firstYear s_rings s_books s_told s_far s_tune s_depths) H → va_D A (w_X12_findBegins a0 q_books q_told q_far q_tune q_depths q_text q_years q_months q_ring q_woods q_ends q_wood q_sheets q_marsh q_oldest q_youngest q_knowns q_known q_weight q_chance q_digs q_draft q_isKept cA s_trace s_typed s_earliest s_latest s_firstYear s_rings s_books s_told s_far s_tune s_depths) → va_S A s.heap H locs → ∀ ls : Array Slot, lv_has ls 7 [(0, .ref a0), (1, .int x1), (2, .int x2), (5, .int x5)] → W p l e rm_X12_findBegins s m args below meth c H locs 0 0 (MQ below (CQ D none (w_X12_findBegins a0 q_books q_told q_far q_tune q_depths q_text q_years q_months q_ring q_woods q_ends q_wood q_sheets q_marsh q_oldest q_youngest q_knowns q_known q_weight q_chance q_digs q_draft q_isKept cA s_trace s_typed o_earliest o_latest s_firstYear s_rings s_books s_told s_far s_tune s_depths) A) args s 0 0 A) (F0 m 139 ls [.int z0]) := by
  obtain ⟨hx, hb, hml, hown, hts, hr, hlocks, hX⟩ := C0
  have hK := hX.1
  have hN := hX.2
  intro x2 x5 z0 s_earliest s_latest hf H locs hP hD hS ls hl
  unfold f_X12_findBegins_139 at hf
  refine lv_istore (lv' := [(6, .int z0), (0, .ref a0), (1, .int x1), (2, .int x2), (5, .int x5)]) hx hb dX12_findBegins_139 hl (by decide) rfl (fun ls hl => ?_)
  refine lv_aload_n hx hb dX12_findBegins_141 rfl (lv_at hl 1 rfl) ?_
  refine lv_iload hx hb dX12_findBegins_142 (lv_at hl 4 rfl) ?_
  refine lv_aload_n hx hb dX12_findBegins_144 rfl (lv_at hl 1 rfl) ?_
  refine va_get (D := D) (ci := 12) (v := .int s_earliest) (C := RX12) (T := TX12) (N := 29) hx hb hts hn_X12_findBegins_X12 hown hK hP 0 rfl rfl 8 (by decide) (hts _ hw_X12_findBegins_f123) (fun _ h9 => h9) rfl dX12_findBegins_145 ?_
  refine lv_icmp_le (tgt := 156) hx hb dX12_findBegins_148 (by decide) (fun c_1 => ?_) (fun c_1 => ?_)
  · have hf := pbr_t c_1 hf
    refine lv_aload_n hx hb dX12_findBegins_156 rfl (lv_at hl 1 rfl) ?_
    refine va_get (D := D) (ci := 12) (v := .int s_earliest) (C := RX12) (T := TX12) (N := 29) hx hb hts hn_X12_findBegins_X12 hown hK hP 0 rfl rfl 8 (by decide) (hts _ hw_X12_findBegins_f123) (fun _ h9 => h9) rfl dX12_findBegins_157 ?_
    exact k_X12_findBegins_160 ⟨hx, hb, hml, hown, hts, hr, hlocks, hX⟩ hA hr14 x2 z0 s_earliest s_earliest s_latest hf _ _ hP hD hS ls (lv_sub hl [1, 2, 3, 0] rfl)
  have hf := pbr_f c_1 hf
  refine lv_iload hx hb dX12_findBegins_151 (lv_at hl 4 rfl) ?_
  refine lv_goto (tgt := 160) hx hb dX12_findBegins_153 (by decide) ?_
  exact k_X12_findBegins_160 ⟨hx, hb, hml, hown, hts, hr, hlocks, hX⟩ hA hr14 x2 z0 x5 s_earliest s_latest hf _ _ hP hD hS ls (lv_sub hl [1, 2, 3, 0] rfl)

def f_X12_findBegins_110 (r14 : (Int32) → (Int32) → (Int32) → Option ((Int32) × (Int32))) (s_books : Nat → Int32) (s_told : Nat → Int32) (s_far : Nat → Int32) (s_tune : Nat → Int32) (s_depths : Nat → Int32) (x1 : Int32) (x2 : Int32) (x3 : Int32) (x4 : Int32) (z0 : Int32) (s_earliest : Int32) (s_latest : Int32) : Option ((Int32) × (Int32)) :=
  pbr (x4 = 0)
    (f_X12_findBegins_139 r14 s_books s_told s_far s_tune s_depths x1 x2 z0 (-1000000 : Int32) s_earliest s_latest)
    (pgd (pin (((5 : Int32) * x2) + (2 : Int32)) 90) (
    pgd (pin x3 48) (
    f_X12_findBegins_139 r14 s_books s_told s_far s_tune s_depths x1 x2 z0 ((s_told (((5 : Int32) * x2) + (2 : Int32)).toNatClampNeg) - (s_far x3.toNatClampNeg)) s_earliest s_latest)))

set_option maxRecDepth 100000 in
set_option maxHeartbeats 4000000 in
theorem k_X12_findBegins_110 {p : Program} {l : Launch} {e : Env} {s : State} {m : MethodId} {args : Array Value} {below : List Frame} {meth : Method} {c : Code} {A : Nat → Prop} {D : va_G} {cA : Nat → ClassId} (C0 : MX p s m args meth c cX12_findBegins 7 wsX12_findBegins RX12 none D cA) (hA : ∀ q, s.heap.size ≤ q → A q) {a0 : Nat} {q_books : Nat} {q_told : Nat} {q_far : Nat} {q_tune : Nat} {q_depths : Nat} {q_text : Nat} {q_years : Nat} {q_months : Nat} {q_ring : Nat} {q_woods : Nat} {q_ends : Nat} {q_wood : Nat} {q_sheets : Nat} {q_marsh : Nat} {q_oldest : Nat} {q_youngest : Nat} {q_knowns : Nat} {q_known : Nat} {q_weight : Nat} {q_chance : Nat} {q_digs : Nat} {q_draft : Nat} {q_isKept : Nat} {s_trace : Int64} {s_typed : Int32} {s_firstYear : Int32} {s_rings : Int32} {s_books : Nat → Int32} {s_told : Nat → Int32} {s_far : Nat → Int32} {s_tune : Nat → Int32} {s_depths : Nat → Int32} {x1 : Int32} {o_earliest : Int32} {o_latest : Int32} {r14 : (Int32) → (Int32) → (Int32) → Option ((Int32) × (Int32))} (hr14 : ∀ (x2 : Int32) (s_earliest : Int32) (s_latest : Int32), r14 x2 s_earliest s_latest = some (o_earliest, o_latest) → ∀ (H : Heap) (locs : List Loc), va_P D vwCl (w_X12_findBegins a0 q_books q_told q_far q_tune q_depths q_text q_years q_months q_ring q_woods q_ends q_wood q_sheets q_marsh q_oldest q_youngest q_knowns q_known q_weight q_chance q_digs q_draft q_isKept cA s_trace s_typed s_earliest s_latest s_firstYear s_rings s_books s_told s_far s_tune s_depths) H → va_D A (w_X12_findBegins a0 q_books q_told q_far q_tune q_depths q_text q_years q_months q_ring q_woods q_ends q_wood q_sheets q_marsh q_oldest q_youngest q_knowns q_known q_weight q_chance q_digs q_draft q_isKept cA s_trace s_typed s_earliest s_latest s_firstYear s_rings s_books s_told s_far s_tune s_depths) → va_S A s.heap H locs → ∀ ls : Array Slot, lv_has ls 7 [(0, .ref a0), (1, .int x1), (2, .int x2)] → W p l e rm_X12_findBegins s m args below meth c H locs 0 0 (MQ below (CQ D none (w_X12_findBegins a0 q_books q_told q_far q_tune q_depths q_text q_years q_months q_ring q_woods q_ends q_wood q_sheets q_marsh q_oldest q_youngest q_knowns q_known q_weight q_chance q_digs q_draft q_isKept cA s_trace s_typed o_earliest o_latest s_firstYear s_rings s_books s_told s_far s_tune s_depths) A) args s 0 0 A) (F0 m 14 ls [])) : ∀ (x2 : Int32) (x3 : Int32) (x4 : Int32) (z0 : Int32) (s_earliest : Int32) (s_latest : Int32), f_X12_findBegins_110 r14 s_books s_told s_far s_tune s_depths x1 x2 x3 x4 z0 s_earliest s_latest = some (o_earliest, o_latest) → ∀ (H : Heap) (locs : List Loc), va_P D vwCl (w_X12_findBegins a0 q_books q_told q_far q_tune q_depths q_text q_years q_months q_ring q_woods q_ends q_wood q_sheets q_marsh q_oldest q_youngest q_knowns q_known q_weight q_chance q_digs q_draft q_isKept cA s_trace s_typed s_earliest s_latest s_firstYear s_rings s_books s_told s_far s_tune s_depths) H → va_D A (w_X12_findBegins a0 q_books q_told q_far q_tune q_depths q_text q_years q_months q_ring q_woods q_ends q_wood q_sheets q_marsh q_oldest q_youngest q_knowns q_known q_weight q_chance q_digs q_draft q_isKept cA s_trace s_typed s_earliest s_latest s_firstYear s_rings s_books s_told s_far s_tune s_depths) → va_S A s.heap H locs → ∀ ls : Array Slot, lv_has ls 7 [(0, .ref a0), (1, .int x1), (2, .int x2), (3, .int x3), (4, .int x4)] → W p l e rm_X12_findBegins s m args below meth c H locs 0 0 (MQ below (CQ D none (w_X12_findBegins a0 q_books q_told q_far q_tune q_depths q_text q_years q_months q_ring q_woods q_ends q_wood q_sheets q_marsh q_oldest q_youngest q_knowns q_known q_weight q_chance q_digs q_draft q_isKept cA s_trace s_typed o_earliest o_latest s_firstYear s_rings s_books s_told s_far s_tune s_depths) A) args s 0 0 A) (F0 m 110 ls [.int z0]) := by
  obtain ⟨hx, hb, hml, hown, hts, hr, hlocks, hX⟩ := C0
  have hK := hX.1
  have hN := hX.2
  intro x2 x3 x4 z0 s_earliest s_latest hf H locs hP hD hS ls hl
  unfold f_X12_findBegins_110 at hf
  refine lv_istore (lv' := [(5, .int z0), (0, .ref a0), (1, .int x1), (2, .int x2), (3, .int x3), (4, .int x4)]) hx hb dX12_findBegins_110 hl (by decide) rfl (fun ls hl => ?_)
  refine lv_iload hx hb dX12_findBegins_112 (lv_at hl 5 rfl) ?_
  refine lv_if_eq (tgt := 137) hx hb dX12_findBegins_114 (by decide) (fun c_1 => ?_) (fun c_1 => ?_)
  · have hf := pbr_t c_1 hf
    refine lv_ldc (v := (-1000000 : Int32)) hx hb hown (hts _ hw_X12_findBegins_c122) dX12_findBegins_137 ?_
    exact k_X12_findBegins_139 ⟨hx, hb, hml, hown, hts, hr, hlocks, hX⟩ hA hr14 x2 z0 (-1000000 : Int32) s_earliest s_latest hf _ _ hP hD hS ls (lv_sub hl [1, 2, 3, 0] rfl)
  have hf := pbr_f c_1 hf
  refine lv_aload_n hx hb dX12_findBegins_117 rfl (lv_at hl 1 rfl) ?_
  refine va_get (D := D) (ci := 12) (v := .ref q_told) (C := RX12) (T := TX12) (N := 29) hx hb hts hn_X12_findBegins_X12 hown hK hP 0 rfl rfl 7 (by decide) (hts _ hw_X12_findBegins_f26) (fun _ h9 => h9) rfl dX12_findBegins_118 ?_
  refine lv_iconst (v := (5 : Int32)) hx hb dX12_findBegins_121 (by decide) ?_
  refine lv_iload_n hx hb dX12_findBegins_122 rfl (lv_at hl 3 rfl) ?_
  refine lv_imul hx hb dX12_findBegins_123 ?_
  refine lv_iconst (v := (2 : Int32)) hx hb dX12_findBegins_124 (by decide) ?_
  refine lv_iadd hx hb dX12_findBegins_125 ?_
  obtain ⟨g_2, hf⟩ := pgd_e hf
  refine va_iald hx hb hK hP 2 1 rfl rfl g_2 dX12_findBegins_126 ?_
  refine lv_aload_n hx hb dX12_findBegins_127 rfl (lv_at hl 1 rfl) ?_
  refine va_get (D := D) (ci := 12) (v := .ref q_far) (C := RX12) (T := TX12) (N := 29) hx hb hts hn_X12_findBegins_X12 hown hK hP 0 rfl rfl 5 (by decide) (hts _ hw_X12_findBegins_f20) (fun _ h9 => h9) rfl dX12_findBegins_128 ?_
  refine lv_iload_n hx hb dX12_findBegins_131 rfl (lv_at hl 4 rfl) ?_
  obtain ⟨g_3, hf⟩ := pgd_e hf
  refine va_iald hx hb hK hP 3 1 rfl rfl g_3 dX12_findBegins_132 ?_
  refine lv_isub hx hb dX12_findBegins_133 ?_
  refine lv_goto (tgt := 139) hx hb dX12_findBegins_134 (by decide) ?_
  exact k_X12_findBegins_139 ⟨hx, hb, hml, hown, hts, hr, hlocks, hX⟩ hA hr14 x2 z0 ((s_told (((5 : Int32) * x2) + (2 : Int32)).toNatClampNeg) - (s_far x3.toNatClampNeg)) s_earliest s_latest hf _ _ hP hD hS ls (lv_sub hl [1, 2, 3, 0] rfl)

def f_X12_findBegins_81 (r14 : (Int32) → (Int32) → (Int32) → Option ((Int32) × (Int32))) (s_books : Nat → Int32) (s_told : Nat → Int32) (s_far : Nat → Int32) (s_tune : Nat → Int32) (s_depths : Nat → Int32) (x1 : Int32) (x2 : Int32) (x3 : Int32) (z0 : Int32) (s_earliest : Int32) (s_latest : Int32) : Option ((Int32) × (Int32)) :=
  pbr (z0 = 0)
    (f_X12_findBegins_110 r14 s_books s_told s_far s_tune s_depths x1 x2 x3 z0 (1000000 : Int32) s_earliest s_latest)
    (pgd (pin (((5 : Int32) * x2) + (1 : Int32)) 90) (
    pgd (pin x3 48) (
    f_X12_findBegins_110 r14 s_books s_told s_far s_tune s_depths x1 x2 x3 z0 ((s_told (((5 : Int32) * x2) + (1 : Int32)).toNatClampNeg) - (s_far x3.toNatClampNeg)) s_earliest s_latest)))

set_option maxRecDepth 100000 in
set_option maxHeartbeats 4000000 in
theorem k_X12_findBegins_81 {p : Program} {l : Launch} {e : Env} {s : State} {m : MethodId} {args : Array Value} {below : List Frame} {meth : Method} {c : Code} {A : Nat → Prop} {D : va_G} {cA : Nat → ClassId} (C0 : MX p s m args meth c cX12_findBegins 7 wsX12_findBegins RX12 none D cA) (hA : ∀ q, s.heap.size ≤ q → A q) {a0 : Nat} {q_books : Nat} {q_told : Nat} {q_far : Nat} {q_tune : Nat} {q_depths : Nat} {q_text : Nat} {q_years : Nat} {q_months : Nat} {q_ring : Nat} {q_woods : Nat} {q_ends : Nat} {q_wood : Nat} {q_sheets : Nat} {q_marsh : Nat} {q_oldest : Nat} {q_youngest : Nat} {q_knowns : Nat} {q_known : Nat} {q_weight : Nat} {q_chance : Nat} {q_digs : Nat} {q_draft : Nat} {q_isKept : Nat} {s_trace : Int64} {s_typed : Int32} {s_firstYear : Int32} {s_rings : Int32} {s_books : Nat → Int32} {s_told : Nat → Int32} {s_far : Nat → Int32} {s_tune : Nat → Int32} {s_depths : Nat → Int32} {x1 : Int32} {o_earliest : Int32} {o_latest : Int32} {r14 : (Int32) → (Int32) → (Int32) → Option ((Int32) × (Int32))} (hr14 : ∀ (x2 : Int32) (s_earliest : Int32) (s_latest : Int32), r14 x2 s_earliest s_latest = some (o_earliest, o_latest) → ∀ (H : Heap) (locs : List Loc), va_P D vwCl (w_X12_findBegins a0 q_books q_told q_far q_tune q_depths q_text q_years q_months q_ring q_woods q_ends q_wood q_sheets q_marsh q_oldest q_youngest q_knowns q_known q_weight q_chance q_digs q_draft q_isKept cA s_trace s_typed s_earliest s_latest s_firstYear s_rings s_books s_told s_far s_tune s_depths) H → va_D A (w_X12_findBegins a0 q_books q_told q_far q_tune q_depths q_text q_years q_months q_ring q_woods q_ends q_wood q_sheets q_marsh q_oldest q_youngest q_knowns q_known q_weight q_chance q_digs q_draft q_isKept cA s_trace s_typed s_earliest s_latest s_firstYear s_rings s_books s_told s_far s_tune s_depths) → va_S A s.heap H locs → ∀ ls : Array Slot, lv_has ls 7 [(0, .ref a0), (1, .int x1), (2, .int x2)] → W p l e rm_X12_findBegins s m args below meth c H locs 0 0 (MQ below (CQ D none (w_X12_findBegins a0 q_books q_told q_far q_tune q_depths q_text q_years q_months q_ring q_woods q_ends q_wood q_sheets q_marsh q_oldest q_youngest q_knowns q_known q_weight q_chance q_digs q_draft q_isKept cA s_trace s_typed o_earliest o_latest s_firstYear s_rings s_books s_told s_far s_tune s_depths) A) args s 0 0 A) (F0 m 14 ls [])) : ∀ (x2 : Int32) (x3 : Int32) (z0 : Int32) (s_earliest : Int32) (s_latest : Int32), f_X12_findBegins_81 r14 s_books s_told s_far s_tune s_depths x1 x2 x3 z0 s_earliest s_latest = some (o_earliest, o_latest) → ∀ (H : Heap) (locs : List Loc), va_P D vwCl (w_X12_findBegins a0 q_books q_told q_far q_tune q_depths q_text q_years q_months q_ring q_woods q_ends q_wood q_sheets q_marsh q_oldest q_youngest q_knowns q_known q_weight q_chance q_digs q_draft q_isKept cA s_trace s_typed s_earliest s_latest s_firstYear s_rings s_books s_told s_far s_tune s_depths) H → va_D A (w_X12_findBegins a0 q_books q_told q_far q_tune q_depths q_text q_years q_months q_ring q_woods q_ends q_wood q_sheets q_marsh q_oldest q_youngest q_knowns q_known q_weight q_chance q_digs q_draft q_isKept cA s_trace s_typed s_earliest s_latest s_firstYear s_rings s_books s_told s_far s_tune s_depths) → va_S A s.heap H locs → ∀ ls : Array Slot, lv_has ls 7 [(0, .ref a0), (1, .int x1), (2, .int x2), (3, .int x3)] → W p l e rm_X12_findBegins s m args below meth c H locs 0 0 (MQ below (CQ D none (w_X12_findBegins a0 q_books q_told q_far q_tune q_depths q_text q_years q_months q_ring q_woods q_ends q_wood q_sheets q_marsh q_oldest q_youngest q_knowns q_known q_weight q_chance q_digs q_draft q_isKept cA s_trace s_typed o_earliest o_latest s_firstYear s_rings s_books s_told s_far s_tune s_depths) A) args s 0 0 A) (F0 m 81 ls [.int z0]) := by
  obtain ⟨hx, hb, hml, hown, hts, hr, hlocks, hX⟩ := C0
  have hK := hX.1
  have hN := hX.2
  intro x2 x3 z0 s_earliest s_latest hf H locs hP hD hS ls hl
  unfold f_X12_findBegins_81 at hf
  refine lv_istore (lv' := [(4, .int z0), (0, .ref a0), (1, .int x1), (2, .int x2), (3, .int x3)]) hx hb dX12_findBegins_81 hl (by decide) rfl (fun ls hl => ?_)
  refine lv_iload hx hb dX12_findBegins_83 (lv_at hl 0 rfl) ?_
  refine lv_if_eq (tgt := 108) hx hb dX12_findBegins_85 (by decide) (fun c_1 => ?_) (fun c_1 => ?_)
  · have hf := pbr_t c_1 hf
    refine lv_ldc (v := (1000000 : Int32)) hx hb hown (hts _ hw_X12_findBegins_c107) dX12_findBegins_108 ?_
    exact k_X12_findBegins_110 ⟨hx, hb, hml, hown, hts, hr, hlocks, hX⟩ hA hr14 x2 x3 z0 (1000000 : Int32) s_earliest s_latest hf _ _ hP hD hS ls (lv_sub hl [1, 2, 3, 4, 0] rfl)
  have hf := pbr_f c_1 hf
  refine lv_aload_n hx hb dX12_findBegins_88 rfl (lv_at hl 1 rfl) ?_
  refine va_get (D := D) (ci := 12) (v := .ref q_told) (C := RX12) (T := TX12) (N := 29) hx hb hts hn_X12_findBegins_X12 hown hK hP 0 rfl rfl 7 (by decide) (hts _ hw_X12_findBegins_f26) (fun _ h9 => h9) rfl dX12_findBegins_89 ?_
  refine lv_iconst (v := (5 : Int32)) hx hb dX12_findBegins_92 (by decide) ?_
  refine lv_iload_n hx hb dX12_findBegins_93 rfl (lv_at hl 3 rfl) ?_
  refine lv_imul hx hb dX12_findBegins_94 ?_
  refine lv_iconst (v := (1 : Int32)) hx hb dX12_findBegins_95 (by decide) ?_
  refine lv_iadd hx hb dX12_findBegins_96 ?_
  obtain ⟨g_2, hf⟩ := pgd_e hf
  refine va_iald hx hb hK hP 2 1 rfl rfl g_2 dX12_findBegins_97 ?_
  refine lv_aload_n hx hb dX12_findBegins_98 rfl (lv_at hl 1 rfl) ?_
  refine va_get (D := D) (ci := 12) (v := .ref q_far) (C := RX12) (T := TX12) (N := 29) hx hb hts hn_X12_findBegins_X12 hown hK hP 0 rfl rfl 5 (by decide) (hts _ hw_X12_findBegins_f20) (fun _ h9 => h9) rfl dX12_findBegins_99 ?_
  refine lv_iload_n hx hb dX12_findBegins_102 rfl (lv_at hl 4 rfl) ?_
  obtain ⟨g_3, hf⟩ := pgd_e hf
  refine va_iald hx hb hK hP 3 1 rfl rfl g_3 dX12_findBegins_103 ?_
  refine lv_isub hx hb dX12_findBegins_104 ?_
  refine lv_goto (tgt := 110) hx hb dX12_findBegins_105 (by decide) ?_
  exact k_X12_findBegins_110 ⟨hx, hb, hml, hown, hts, hr, hlocks, hX⟩ hA hr14 x2 x3 z0 ((s_told (((5 : Int32) * x2) + (1 : Int32)).toNatClampNeg) - (s_far x3.toNatClampNeg)) s_earliest s_latest hf _ _ hP hD hS ls (lv_sub hl [1, 2, 3, 4, 0] rfl)

def f_X12_findBegins_80 (r14 : (Int32) → (Int32) → (Int32) → Option ((Int32) × (Int32))) (s_books : Nat → Int32) (s_told : Nat → Int32) (s_far : Nat → Int32) (s_tune : Nat → Int32) (s_depths : Nat → Int32) (x1 : Int32) (x2 : Int32) (x3 : Int32) (s_earliest : Int32) (s_latest : Int32) : Option ((Int32) × (Int32)) :=
  f_X12_findBegins_81 r14 s_books s_told s_far s_tune s_depths x1 x2 x3 (0 : Int32) s_earliest s_latest

set_option maxRecDepth 100000 in
set_option maxHeartbeats 4000000 in
theorem k_X12_findBegins_80 {p : Program} {l : Launch} {e : Env} {s : State} {m : MethodId} {args : Array Value} {below : List Frame} {meth : Method} {c : Code} {A : Nat → Prop} {D : va_G} {cA : Nat → ClassId} (C0 : MX p s m args meth c cX12_findBegins 7 wsX12_findBegins RX12 none D cA) (hA : ∀ q, s.heap.size ≤ q → A q) {a0 : Nat} {q_books : Nat} {q_told : Nat} {q_far : Nat} {q_tune : Nat} {q_depths : Nat} {q_text : Nat} {q_years : Nat} {q_months : Nat} {q_ring : Nat} {q_woods : Nat} {q_ends : Nat} {q_wood : Nat} {q_sheets : Nat} {q_marsh : Nat} {q_oldest : Nat} {q_youngest : Nat} {q_knowns : Nat} {q_known : Nat} {q_weight : Nat} {q_chance : Nat} {q_digs : Nat} {q_draft : Nat} {q_isKept : Nat} {s_trace : Int64} {s_typed : Int32} {s_firstYear : Int32} {s_rings : Int32} {s_books : Nat → Int32} {s_told : Nat → Int32} {s_far : Nat → Int32} {s_tune : Nat → Int32} {s_depths : Nat → Int32} {x1 : Int32} {o_earliest : Int32} {o_latest : Int32} {r14 : (Int32) → (Int32) → (Int32) → Option ((Int32) × (Int32))} (hr14 : ∀ (x2 : Int32) (s_earliest : Int32) (s_latest : Int32), r14 x2 s_earliest s_latest = some (o_earliest, o_latest) → ∀ (H : Heap) (locs : List Loc), va_P D vwCl (w_X12_findBegins a0 q_books q_told q_far q_tune q_depths q_text q_years q_months q_ring q_woods q_ends q_wood q_sheets q_marsh q_oldest q_youngest q_knowns q_known q_weight q_chance q_digs q_draft q_isKept cA s_trace s_typed s_earliest s_latest s_firstYear s_rings s_books s_told s_far s_tune s_depths) H → va_D A (w_X12_findBegins a0 q_books q_told q_far q_tune q_depths q_text q_years q_months q_ring q_woods q_ends q_wood q_sheets q_marsh q_oldest q_youngest q_knowns q_known q_weight q_chance q_digs q_draft q_isKept cA s_trace s_typed s_earliest s_latest s_firstYear s_rings s_books s_told s_far s_tune s_depths) → va_S A s.heap H locs → ∀ ls : Array Slot, lv_has ls 7 [(0, .ref a0), (1, .int x1), (2, .int x2)] → W p l e rm_X12_findBegins s m args below meth c H locs 0 0 (MQ below (CQ D none (w_X12_findBegins a0 q_books q_told q_far q_tune q_depths q_text q_years q_months q_ring q_woods q_ends q_wood q_sheets q_marsh q_oldest q_youngest q_knowns q_known q_weight q_chance q_digs q_draft q_isKept cA s_trace s_typed o_earliest o_latest s_firstYear s_rings s_books s_told s_far s_tune s_depths) A) args s 0 0 A) (F0 m 14 ls [])) : ∀ (x2 : Int32) (x3 : Int32) (s_earliest : Int32) (s_latest : Int32), f_X12_findBegins_80 r14 s_books s_told s_far s_tune s_depths x1 x2 x3 s_earliest s_latest = some (o_earliest, o_latest) → ∀ (H : Heap) (locs : List Loc), va_P D vwCl (w_X12_findBegins a0 q_books q_told q_far q_tune q_depths q_text q_years q_months q_ring q_woods q_ends q_wood q_sheets q_marsh q_oldest q_youngest q_knowns q_known q_weight q_chance q_digs q_draft q_isKept cA s_trace s_typed s_earliest s_latest s_firstYear s_rings s_books s_told s_far s_tune s_depths) H → va_D A (w_X12_findBegins a0 q_books q_told q_far q_tune q_depths q_text q_years q_months q_ring q_woods q_ends q_wood q_sheets q_marsh q_oldest q_youngest q_knowns q_known q_weight q_chance q_digs q_draft q_isKept cA s_trace s_typed s_earliest s_latest s_firstYear s_rings s_books s_told s_far s_tune s_depths) → va_S A s.heap H locs → ∀ ls : Array Slot, lv_has ls 7 [(0, .ref a0), (1, .int x1), (2, .int x2), (3, .int x3)] → W p l e rm_X12_findBegins s m args below meth c H locs 0 0 (MQ below (CQ D none (w_X12_findBegins a0 q_books q_told q_far q_tune q_depths q_text q_years q_months q_ring q_woods q_ends q_wood q_sheets q_marsh q_oldest q_youngest q_knowns q_known q_weight q_chance q_digs q_draft q_isKept cA s_trace s_typed o_earliest o_latest s_firstYear s_rings s_books s_told s_far s_tune s_depths) A) args s 0 0 A) (F0 m 80 ls []) := by
  obtain ⟨hx, hb, hml, hown, hts, hr, hlocks, hX⟩ := C0
  have hK := hX.1
  have hN := hX.2
  intro x2 x3 s_earliest s_latest hf H locs hP hD hS ls hl
  unfold f_X12_findBegins_80 at hf
  refine lv_iconst (v := (0 : Int32)) hx hb dX12_findBegins_80 (by decide) ?_
  exact k_X12_findBegins_81 ⟨hx, hb, hml, hown, hts, hr, hlocks, hX⟩ hA hr14 x2 x3 (0 : Int32) s_earliest s_latest hf _ _ hP hD hS ls (lv_sub hl [0, 1, 2, 3] rfl)

def f_X12_findBegins_14 (s_books : Nat → Int32) (s_told : Nat → Int32) (s_far : Nat → Int32) (s_tune : Nat → Int32) (s_depths : Nat → Int32) (x1 : Int32) : Nat → (Int32) → (Int32) → (Int32) → Option ((Int32) × (Int32))
  | 0, _, _, _ => none
  | k + 1, x2, s_earliest, s_latest =>
    pbr ((s_books (0 : Int32).toNatClampNeg) ≤ x2)
      (some (s_earliest, s_latest))
      (pgd (pin ((5 : Int32) * x2) 90) (
      plt ((s_told ((5 : Int32) * x2).toNatClampNeg) : Int32) (fun x3_3 => (
      pgd (pin x3_3 48) (
      pbr ((1000000 : Int32) ≤ (s_far x3_3.toNatClampNeg))
        (f_X12_findBegins_80 (f_X12_findBegins_14 s_books s_told s_far s_tune s_depths x1 k) s_books s_told s_far s_tune s_depths x1 x2 x3_3 s_earliest s_latest)
        (pcl (f_X12_heightAt x1 x3_3 s_tune s_far s_depths) (fun r_6 => (
        pgd (pin (((5 : Int32) * x2) + (3 : Int32)) 90) (
        pgd (pin (((5 : Int32) * x2) + (4 : Int32)) 90) (
        pcl (f_X12_in r_6 (s_told (((5 : Int32) * x2) + (3 : Int32)).toNatClampNeg) (s_told (((5 : Int32) * x2) + (4 : Int32)).toNatClampNeg)) (fun r_10 => (
        pbr (r_10 = 0)
          (f_X12_findBegins_80 (f_X12_findBegins_14 s_books s_told s_far s_tune s_depths x1 k) s_books s_told s_far s_tune s_depths x1 x2 x3_3 s_earliest s_latest)
          (f_X12_findBegins_81 (f_X12_findBegins_14 s_books s_told s_far s_tune s_depths x1 k) s_books s_told s_far s_tune s_depths x1 x2 x3_3 (1 : Int32) s_earliest s_latest)))))))))))))

set_option maxRecDepth 100000 in
set_option maxHeartbeats 4000000 in
theorem k_X12_findBegins_14 {p : Program} {l : Launch} {e : Env} {s : State} {m : MethodId} {args : Array Value} {below : List Frame} {meth : Method} {c : Code} {A : Nat → Prop} {D : va_G} {cA : Nat → ClassId} (C0 : MX p s m args meth c cX12_findBegins 7 wsX12_findBegins RX12 none D cA) (hA : ∀ q, s.heap.size ≤ q → A q) {a0 : Nat} {q_books : Nat} {q_told : Nat} {q_far : Nat} {q_tune : Nat} {q_depths : Nat} {q_text : Nat} {q_years : Nat} {q_months : Nat} {q_ring : Nat} {q_woods : Nat} {q_ends : Nat} {q_wood : Nat} {q_sheets : Nat} {q_marsh : Nat} {q_oldest : Nat} {q_youngest : Nat} {q_knowns : Nat} {q_known : Nat} {q_weight : Nat} {q_chance : Nat} {q_digs : Nat} {q_draft : Nat} {q_isKept : Nat} {s_trace : Int64} {s_typed : Int32} {s_firstYear : Int32} {s_rings : Int32} {s_books : Nat → Int32} {s_told : Nat → Int32} {s_far : Nat → Int32} {s_tune : Nat → Int32} {s_depths : Nat → Int32} {x1 : Int32} {o_earliest : Int32} {o_latest : Int32} : ∀ (k : Nat) (x2 : Int32) (s_earliest : Int32) (s_latest : Int32), f_X12_findBegins_14 s_books s_told s_far s_tune s_depths x1 k x2 s_earliest s_latest = some (o_earliest, o_latest) → ∀ (H : Heap) (locs : List Loc), va_P D vwCl (w_X12_findBegins a0 q_books q_told q_far q_tune q_depths q_text q_years q_months q_ring q_woods q_ends q_wood q_sheets q_marsh q_oldest q_youngest q_knowns q_known q_weight q_chance q_digs q_draft q_isKept cA s_trace s_typed s_earliest s_latest s_firstYear s_rings s_books s_told s_far s_tune s_depths) H → va_D A (w_X12_findBegins a0 q_books q_told q_far q_tune q_depths q_text q_years q_months q_ring q_woods q_ends q_wood q_sheets q_marsh q_oldest q_youngest q_knowns q_known q_weight q_chance q_digs q_draft q_isKept cA s_trace s_typed s_earliest s_latest s_firstYear s_rings s_books s_told s_far s_tune s_depths) → va_S A s.heap H locs → ∀ ls : Array Slot, lv_has ls 7 [(0, .ref a0), (1, .int x1), (2, .int x2)] → W p l e rm_X12_findBegins s m args below meth c H locs 0 0 (MQ below (CQ D none (w_X12_findBegins a0 q_books q_told q_far q_tune q_depths q_text q_years q_months q_ring q_woods q_ends q_wood q_sheets q_marsh q_oldest q_youngest q_knowns q_known q_weight q_chance q_digs q_draft q_isKept cA s_trace s_typed o_earliest o_latest s_firstYear s_rings s_books s_told s_far s_tune s_depths) A) args s 0 0 A) (F0 m 14 ls []) := by
  obtain ⟨hx, hb, hml, hown, hts, hr, hlocks, hX⟩ := C0
  have hK := hX.1
  have hN := hX.2
  intro k
  induction k with
  | zero =>
    intro x2 s_earliest s_latest hf
    cases hf
  | succ k ih =>
    intro x2 s_earliest s_latest hf H locs hP hD hS ls hl
    rw [f_X12_findBegins_14] at hf
    refine lv_iload_n hx hb dX12_findBegins_14 rfl (lv_at hl 2 rfl) ?_
    refine lv_aload_n hx hb dX12_findBegins_15 rfl (lv_at hl 0 rfl) ?_
    refine va_get (D := D) (ci := 12) (v := .ref q_books) (C := RX12) (T := TX12) (N := 29) hx hb hts hn_X12_findBegins_X12 hown hK hP 0 rfl rfl 6 (by decide) (hts _ hw_X12_findBegins_f23) (fun _ h9 => h9) rfl dX12_findBegins_16 ?_
    refine lv_iconst (v := (0 : Int32)) hx hb dX12_findBegins_19 (by decide) ?_
    refine va_iald hx hb hK hP 1 1 rfl rfl (show pin (0 : Int32) 3 by decide +kernel) dX12_findBegins_20 ?_
    refine lv_icmp_ge (tgt := 191) hx hb dX12_findBegins_21 (by decide) (fun c_1 => ?_) (fun c_1 => ?_)
    · have hf := pbr_t c_1 hf
      obtain ⟨rfl, rfl⟩ := pe2 hf
      exact m_vret hx hb hr hlocks hP hS dX12_findBegins_191
    have hf := pbr_f c_1 hf
    refine lv_aload_n hx hb dX12_findBegins_24 rfl (lv_at hl 0 rfl) ?_
    refine va_get (D := D) (ci := 12) (v := .ref q_told) (C := RX12) (T := TX12) (N := 29) hx hb hts hn_X12_findBegins_X12 hown hK hP 0 rfl rfl 7 (by decide) (hts _ hw_X12_findBegins_f26) (fun _ h9 => h9) rfl dX12_findBegins_25 ?_
    refine lv_iconst (v := (5 : Int32)) hx hb dX12_findBegins_28 (by decide) ?_
    refine lv_iload_n hx hb dX12_findBegins_29 rfl (lv_at hl 2 rfl) ?_
    refine lv_imul hx hb dX12_findBegins_30 ?_
    obtain ⟨g_2, hf⟩ := pgd_e hf
    refine va_iald hx hb hK hP 2 1 rfl rfl g_2 dX12_findBegins_31 ?_
    refine lv_topi (fun x3_3 ex3_3 => ?_)
    have hf := plt_e ex3_3 hf
    refine lv_istore_n (lv' := [(3, .int x3_3), (0, .ref a0), (1, .int x1), (2, .int x2)]) hx hb dX12_findBegins_32 rfl hl (by decide) rfl (fun ls hl => ?_)
    refine lv_aload_n hx hb dX12_findBegins_33 rfl (lv_at hl 1 rfl) ?_
    refine va_get (D := D) (ci := 12) (v := .ref q_far) (C := RX12) (T := TX12) (N := 29) hx hb hts hn_X12_findBegins_X12 hown hK hP 0 rfl rfl 5 (by decide) (hts _ hw_X12_findBegins_f20) (fun _ h9 => h9) rfl dX12_findBegins_34 ?_
    refine lv_iload_n hx hb dX12_findBegins_37 rfl (lv_at hl 0 rfl) ?_
    obtain ⟨g_4, hf⟩ := pgd_e hf
    refine va_iald hx hb hK hP 3 1 rfl rfl g_4 dX12_findBegins_38 ?_
    refine lv_ldc (v := (1000000 : Int32)) hx hb hown (hts _ hw_X12_findBegins_c107) dX12_findBegins_39 ?_
    refine lv_icmp_ge (tgt := 80) hx hb dX12_findBegins_41 (by decide) (fun c_5 => ?_) (fun c_5 => ?_)
    · have hf := pbr_t c_5 hf
      exact k_X12_findBegins_80 ⟨hx, hb, hml, hown, hts, hr, hlocks, hX⟩ hA ih x2 x3_3 s_earliest s_latest hf _ _ hP hD hS ls (lv_sub hl [1, 2, 3, 0] rfl)
    have hf := pbr_f c_5 hf
    refine lv_aload_n hx hb dX12_findBegins_44 rfl (lv_at hl 1 rfl) ?_
    refine lv_iload_n hx hb dX12_findBegins_45 rfl (lv_at hl 2 rfl) ?_
    refine lv_iload_n hx hb dX12_findBegins_46 rfl (lv_at hl 0 rfl) ?_
    obtain ⟨r_6, hc_7, hf⟩ := pcl_e hf
    refine m_callV2 (As := [.int x1, .int x3_3]) (rest := []) ⟨hx, hb, hml, hown, hts⟩ hX (ct_X12_heightAt l D cA x1 x3_3 a0 q_tune q_far q_depths q_text q_books q_told q_years q_months q_ring q_woods q_ends q_wood q_sheets q_marsh q_oldest q_youngest q_knowns q_known q_weight q_chance q_digs q_draft q_isKept s_trace s_typed s_earliest s_latest s_firstYear s_rings s_tune s_far s_depths r_6 hc_7) (cwV 2 hts gX12_findBegins_X12_heightAt rfl rfl rfl (by decide +kernel) ⟨Nat.le_of_ble_eq_true rfl, Nat.le_of_ble_eq_true rfl⟩) hP hD hS hA [0, 4, 3, 5] [1, 2] 6 (by decide) rfl rfl (WS' := (w_X12_findBegins a0 q_books q_told q_far q_tune q_depths q_text q_years q_months q_ring q_woods q_ends q_wood q_sheets q_marsh q_oldest q_youngest q_knowns q_known q_weight q_chance q_digs q_draft q_isKept cA s_trace s_typed s_earliest s_latest s_firstYear s_rings s_books s_told s_far s_tune s_depths)) (WR := [(q_books, .inl (cA 1, 3, .inl s_books)), (q_told, .inl (cA 1, 90, .inl s_told))]) rfl rfl rfl rfl (by decide) (by decide) 0 12 rfl rfl rfl hl.1 rfl (st' := [.int r_6]) rfl (Nat.le_of_ble_eq_true rfl) ⟨Nat.zero_le _, Nat.zero_le _⟩ dX12_findBegins_47 (fun H locs hP hD hS => ?_)
    refine lv_aload_n hx hb dX12_findBegins_50 rfl (lv_at hl 1 rfl) ?_
    refine va_get (D := D) (ci := 12) (v := .ref q_told) (C := RX12) (T := TX12) (N := 29) hx hb hts hn_X12_findBegins_X12 hown hK hP 0 rfl rfl 7 (by decide) (hts _ hw_X12_findBegins_f26) (fun _ h9 => h9) rfl dX12_findBegins_51 ?_
    refine lv_iconst (v := (5 : Int32)) hx hb dX12_findBegins_54 (by decide) ?_
    refine lv_iload_n hx hb dX12_findBegins_55 rfl (lv_at hl 3 rfl) ?_
    refine lv_imul hx hb dX12_findBegins_56 ?_
    refine lv_iconst (v := (3 : Int32)) hx hb dX12_findBegins_57 (by decide) ?_
    refine lv_iadd hx hb dX12_findBegins_58 ?_
    obtain ⟨g_8, hf⟩ := pgd_e hf
    refine va_iald hx hb hK hP 2 1 rfl rfl g_8 dX12_findBegins_59 ?_
    refine lv_aload_n hx hb dX12_findBegins_60 rfl (lv_at hl 1 rfl) ?_
    refine va_get (D := D) (ci := 12) (v := .ref q_told) (C := RX12) (T := TX12) (N := 29) hx hb hts hn_X12_findBegins_X12 hown hK hP 0 rfl rfl 7 (by decide) (hts _ hw_X12_findBegins_f26) (fun _ h9 => h9) rfl dX12_findBegins_61 ?_
    refine lv_iconst (v := (5 : Int32)) hx hb dX12_findBegins_64 (by decide) ?_
    refine lv_iload_n hx hb dX12_findBegins_65 rfl (lv_at hl 3 rfl) ?_
    refine lv_imul hx hb dX12_findBegins_66 ?_
    refine lv_iconst (v := (4 : Int32)) hx hb dX12_findBegins_67 (by decide) ?_
    refine lv_iadd hx hb dX12_findBegins_68 ?_
    obtain ⟨g_9, hf⟩ := pgd_e hf
    refine va_iald hx hb hK hP 2 1 rfl rfl g_9 dX12_findBegins_69 ?_
    obtain ⟨r_10, hc_11, hf⟩ := pcl_e hf
    refine m_callS2 (As := [.int r_6, .int (s_told (((5 : Int32) * x2) + (3 : Int32)).toNatClampNeg), .int (s_told (((5 : Int32) * x2) + (4 : Int32)).toNatClampNeg)]) (rest := []) ⟨hx, hb, hml, hown, hts⟩ hX (ct_X12_in l D cA r_6 (s_told (((5 : Int32) * x2) + (3 : Int32)).toNatClampNeg) (s_told (((5 : Int32) * x2) + (4 : Int32)).toNatClampNeg) r_10 hc_11) (va_cwS 3 hts gX12_findBegins_X12_in rfl rfl rfl (by decide +kernel) ⟨Nat.le_of_ble_eq_true rfl, Nat.le_of_ble_eq_true rfl⟩) hP hD hS hA [] [0, 1, 2, 3, 4, 5] 6 (by decide) rfl rfl (WS' := (w_X12_findBegins a0 q_books q_told q_far q_tune q_depths q_text q_years q_months q_ring q_woods q_ends q_wood q_sheets q_marsh q_oldest q_youngest q_knowns q_known q_weight q_chance q_digs q_draft q_isKept cA s_trace s_typed s_earliest s_latest s_firstYear s_rings s_books s_told s_far s_tune s_depths)) (WR := [(a0, .inr (12, [.long s_trace, .ref q_text, .int s_typed, .ref q_depths, .ref q_tune, .ref q_far, .ref q_books, .ref q_told, .int s_earliest, .int s_latest, .ref q_years, .ref q_months, .int s_firstYear, .int s_rings, .ref q_ring, .ref q_woods, .ref q_ends, .ref q_wood, .ref q_sheets, .ref q_marsh, .ref q_oldest, .ref q_youngest, .ref q_knowns, .ref q_known, .ref q_weight, .ref q_chance, .ref q_digs, .ref q_draft, .ref q_isKept])), (q_books, .inl (cA 1, 3, .inl s_books)), (q_told, .inl (cA 1, 90, .inl s_told)), (q_far, .inl (cA 1, 48, .inl s_far)), (q_tune, .inl (cA 1, 3, .inl s_tune)), (q_depths, .inl (cA 1, 96, .inl s_depths))]) rfl rfl rfl rfl (by decide) (by decide) rfl hl.1 rfl (st' := [.int r_10]) rfl (Nat.le_of_ble_eq_true rfl) ⟨Nat.zero_le _, Nat.zero_le _⟩ dX12_findBegins_70 (fun H locs hP hD hS => ?_)
    refine lv_if_eq (tgt := 80) hx hb dX12_findBegins_73 (by decide) (fun c_12 => ?_) (fun c_12 => ?_)
    · have hf := pbr_t c_12 hf
      exact k_X12_findBegins_80 ⟨hx, hb, hml, hown, hts, hr, hlocks, hX⟩ hA ih x2 x3_3 s_earliest s_latest hf _ _ hP hD hS ls (lv_sub hl [1, 2, 3, 0] rfl)
    have hf := pbr_f c_12 hf
    refine lv_iconst (v := (1 : Int32)) hx hb dX12_findBegins_76 (by decide) ?_
    refine lv_goto (tgt := 81) hx hb dX12_findBegins_77 (by decide) ?_
    exact k_X12_findBegins_81 ⟨hx, hb, hml, hown, hts, hr, hlocks, hX⟩ hA ih x2 x3_3 (1 : Int32) s_earliest s_latest hf _ _ hP hD hS ls (lv_sub hl [1, 2, 3, 0] rfl)

def f_X12_findBegins (x1 : Int32) (s_earliest : Int32) (s_latest : Int32) (s_books : Nat → Int32) (s_told : Nat → Int32) (s_far : Nat → Int32) (s_tune : Nat → Int32) (s_depths : Nat → Int32) : Option ((Int32) × (Int32)) :=
  f_X12_findBegins_14 s_books s_told s_far s_tune s_depths x1 FU (0 : Int32) (-1000000 : Int32) (1000000 : Int32)

set_option maxRecDepth 100000 in
set_option maxHeartbeats 4000000 in
theorem ct_X12_findBegins (l : Launch) (D : va_G) (cA : Nat → ClassId) (x1 : Int32) (a0 : Nat) (q_books : Nat) (q_told : Nat) (q_far : Nat) (q_tune : Nat) (q_depths : Nat) (q_text : Nat) (q_years : Nat) (q_months : Nat) (q_ring : Nat) (q_woods : Nat) (q_ends : Nat) (q_wood : Nat) (q_sheets : Nat) (q_marsh : Nat) (q_oldest : Nat) (q_youngest : Nat) (q_knowns : Nat) (q_known : Nat) (q_weight : Nat) (q_chance : Nat) (q_digs : Nat) (q_draft : Nat) (q_isKept : Nat) (s_trace : Int64) (s_typed : Int32) (s_earliest : Int32) (s_latest : Int32) (s_firstYear : Int32) (s_rings : Int32) (s_books : Nat → Int32) (s_told : Nat → Int32) (s_far : Nat → Int32) (s_tune : Nat → Int32) (s_depths : Nat → Int32) (o_earliest : Int32) (o_latest : Int32) (hf : f_X12_findBegins x1 s_earliest s_latest s_books s_told s_far s_tune s_depths = some (o_earliest, o_latest)) : CT l yX12_findBegins wsX12_findBegins rm_X12_findBegins D cA [.ref a0, .int x1] (w_X12_findBegins a0 q_books q_told q_far q_tune q_depths q_text q_years q_months q_ring q_woods q_ends q_wood q_sheets q_marsh q_oldest q_youngest q_knowns q_known q_weight q_chance q_digs q_draft q_isKept cA s_trace s_typed s_earliest s_latest s_firstYear s_rings s_books s_told s_far s_tune s_depths) (w_X12_findBegins a0 q_books q_told q_far q_tune q_depths q_text q_years q_months q_ring q_woods q_ends q_wood q_sheets q_marsh q_oldest q_youngest q_knowns q_known q_weight q_chance q_digs q_draft q_isKept cA s_trace s_typed o_earliest o_latest s_firstYear s_rings s_books s_told s_far s_tune s_depths) none := by
  refine CT.ofW (cc := cX12_findBegins) (maxL := 7) (ret := none) (by decide +kernel) rfl (Nat.le_of_ble_eq_true rfl) ?_
  intro p e s m below meth c A C0 hA hP hD ls hl
  have C0 : MX p s m [.ref a0, .int x1].toArray meth c cX12_findBegins 7 wsX12_findBegins RX12 none D cA := C0
  have hl : lv_has ls 7 [(0, .ref a0), (1, .int x1)] := hl
  obtain ⟨hx, hb, hml, hown, hts, hr, hlocks, hX⟩ := id C0
  have hK := hX.1
  have hN := hX.2
  have hS : va_S A s.heap s.heap [] := va_S.rf
  unfold f_X12_findBegins at hf
  refine lv_aload_n hx hb dX12_findBegins_0 rfl (lv_at hl 0 rfl) ?_
  refine lv_ldc (v := (-1000000 : Int32)) hx hb hown (hts _ hw_X12_findBegins_c122) dX12_findBegins_1 ?_
  refine va_put (D := D) (ci := 12) (v := .int (-1000000 : Int32)) (ty := .int) (C := RX12) (T := TX12) (N := 29) hx hb hts hn_X12_findBegins_X12 tyX12 tyX12_ok nmX12 hown hK hP hD hS 0 rfl rfl 8 (by decide) (hts _ hw_X12_findBegins_f123) (fun _ h9 => h9) rfl (by decide +kernel) rfl rfl (Nat.le_of_ble_eq_true rfl) dX12_findBegins_3 (fun H locs hP hD hS => ?_)
  have hP : va_P D vwCl (w_X12_findBegins a0 q_books q_told q_far q_tune q_depths q_text q_years q_months q_ring q_woods q_ends q_wood q_sheets q_marsh q_oldest q_youngest q_knowns q_known q_weight q_chance q_digs q_draft q_isKept cA s_trace s_typed (-1000000 : Int32) s_latest s_firstYear s_rings s_books s_told s_far s_tune s_depths) H := hP
  have hD : va_D A (w_X12_findBegins a0 q_books q_told q_far q_tune q_depths q_text q_years q_months q_ring q_woods q_ends q_wood q_sheets q_marsh q_oldest q_youngest q_knowns q_known q_weight q_chance q_digs q_draft q_isKept cA s_trace s_typed (-1000000 : Int32) s_latest s_firstYear s_rings s_books s_told s_far s_tune s_depths) := hD
  refine lv_aload_n hx hb dX12_findBegins_6 rfl (lv_at hl 0 rfl) ?_
  refine lv_ldc (v := (1000000 : Int32)) hx hb hown (hts _ hw_X12_findBegins_c107) dX12_findBegins_7 ?_
  refine va_put (D := D) (ci := 12) (v := .int (1000000 : Int32)) (ty := .int) (C := RX12) (T := TX12) (N := 29) hx hb hts hn_X12_findBegins_X12 tyX12 tyX12_ok nmX12 hown hK hP hD hS 0 rfl rfl 9 (by decide) (hts _ hw_X12_findBegins_f126) (fun _ h9 => h9) rfl (by decide +kernel) rfl rfl (Nat.le_of_ble_eq_true rfl) dX12_findBegins_9 (fun H locs hP hD hS => ?_)
  have hP : va_P D vwCl (w_X12_findBegins a0 q_books q_told q_far q_tune q_depths q_text q_years q_months q_ring q_woods q_ends q_wood q_sheets q_marsh q_oldest q_youngest q_knowns q_known q_weight q_chance q_digs q_draft q_isKept cA s_trace s_typed (-1000000 : Int32) (1000000 : Int32) s_firstYear s_rings s_books s_told s_far s_tune s_depths) H := hP
  have hD : va_D A (w_X12_findBegins a0 q_books q_told q_far q_tune q_depths q_text q_years q_months q_ring q_woods q_ends q_wood q_sheets q_marsh q_oldest q_youngest q_knowns q_known q_weight q_chance q_digs q_draft q_isKept cA s_trace s_typed (-1000000 : Int32) (1000000 : Int32) s_firstYear s_rings s_books s_told s_far s_tune s_depths) := hD
  refine lv_iconst (v := (0 : Int32)) hx hb dX12_findBegins_12 (by decide) ?_
  refine lv_istore_n (lv' := [(2, .int (0 : Int32)), (0, .ref a0), (1, .int x1)]) hx hb dX12_findBegins_13 rfl hl (by decide) rfl (fun ls hl => ?_)
  exact k_X12_findBegins_14 C0 hA FU (0 : Int32) (-1000000 : Int32) (1000000 : Int32) hf _ _ hP hD hS ls (lv_sub hl [1, 2, 0] rfl)
