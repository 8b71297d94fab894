/-! ===== OrphanWaveModel.spread()V ===== -/
abbrev rm_X12_spread : Room := { frames := 1, cells := 0, slots := 0, locals := 23 }
abbrev w_X12_spread (a0 : Nat) (q_depths : Nat) (q_far : Nat) (q_tune : Nat) (q_text : Nat) (q_books : Nat) (q_told : Nat) (q_years : Nat) (q_months : Nat) (q_ring : Nat) (q_woods : Nat) (q_ends : Nat) (q_wood : Nat) (q_sheets : Nat) (q_marsh : Nat) (q_oldest : Nat) (q_youngest : Nat) (q_knowns : Nat) (q_known : Nat) (q_weight : Nat) (q_chance : Nat) (q_digs : Nat) (q_draft : Nat) (q_isKept : Nat) (cA : Nat → ClassId) (s_trace : Int64) (s_typed : Int32) (s_earliest : Int32) (s_latest : Int32) (s_firstYear : Int32) (s_rings : Int32) (s_depths : Nat → Int32) (s_far : Nat → Int32) (s_tune : Nat → Int32) : va_W := [(a0, .inr (12, [.long s_trace, .ref q_text, .int s_typed, .ref q_depths, .ref q_tune, .ref q_far, .ref q_books, .ref q_told, .int s_earliest, .int s_latest, .ref q_years, .ref q_months, .int s_firstYear, .int s_rings, .ref q_ring, .ref q_woods, .ref q_ends, .ref q_wood, .ref q_sheets, .ref q_marsh, .ref q_oldest, .ref q_youngest, .ref q_knowns, .ref q_known, .ref q_weight, .ref q_chance, .ref q_digs, .ref q_draft, .ref q_isKept])), (q_depths, .inl (cA 1, 96, .inl s_depths)), (q_far, .inl (cA 1, 48, .inl s_far)), (q_tune, .inl (cA 1, 3, .inl s_tune))]
theorem hn_X12_spread_X12 : ∀ w ∈ u_ws RX12 TX12 29, w ∈ wsX12_spread := by decide +kernel
theorem hw_X12_spread_f13 : Cond.fieldLink RX12 13 "OrphanWaveModel" "depths" "[I" ∈ wsX12_spread := by decide +kernel
theorem hw_X12_spread_c107 : Cond.constant RX12 107 (1000000) ∈ wsX12_spread := by decide +kernel
theorem hw_X12_spread_f20 : Cond.fieldLink RX12 20 "OrphanWaveModel" "far" "[I" ∈ wsX12_spread := by decide +kernel

def f_X12_spread_55 (r2 : (Int32) → (Nat → Int32) → Option ((Nat → Int32))) (r10 : (Int32) → (Int32) → (Nat → Int32) → Option ((Nat → Int32))) (s_depths : Nat → Int32) (s_tune : Nat → Int32) (x2 : Int32) (x3 : Int32) (z0 : Int32) (s_far : Nat → Int32) : Option ((Nat → Int32)) :=
  pgd (pin x2 48) (
  plt (upd s_far x2.toNatClampNeg x3 : Nat → Int32) (fun f_2 => (
  plt (x2 + (1 : Int32) : Int32) (fun x2_3 => (
  r10 z0 x2_3 f_2)))))

set_option maxRecDepth 100000 in
set_option maxHeartbeats 4000000 in
theorem k_X12_spread_55 {p : Program} {l : Launch} {e : Env} {s : State} {m : MethodId} {args : Array Value} {below : List Frame} {meth : Method} {c : Code} {A : Nat → Prop} {D : va_G} {cA : Nat → ClassId} (C0 : MX p s m args meth c cX12_spread 4 wsX12_spread RX12 none D cA) (hA : ∀ q, s.heap.size ≤ q → A q) {a0 : Nat} {q_depths : Nat} {q_far : Nat} {q_tune : Nat} {q_text : Nat} {q_books : Nat} {q_told : Nat} {q_years : Nat} {q_months : Nat} {q_ring : Nat} {q_woods : Nat} {q_ends : Nat} {q_wood : Nat} {q_sheets : Nat} {q_marsh : Nat} {q_oldest : Nat} {q_youngest : Nat} {q_knowns : Nat} {q_known : Nat} {q_weight : Nat} {q_chance : Nat} {q_digs : Nat} {q_draft : Nat} {q_isKept : Nat} {s_trace : Int64} {s_typed : Int32} {s_earliest : Int32} {s_latest : Int32} {s_firstYear : Int32} {s_rings : Int32} {s_depths : Nat → Int32} {s_tune : Nat → Int32} {o_far : Nat → Int32} {r2 : (Int32) → (Nat → Int32) → Option ((Nat → Int32))} (hr2 : ∀ (x1 : Int32) (s_far : Nat → Int32), r2 x1 s_far = some o_far → ∀ (H : Heap) (locs : List Loc), va_P D vwCl (w_X12_spread a0 q_depths q_far q_tune q_text q_books q_told q_years q_months q_ring q_woods q_ends q_wood q_sheets q_marsh q_oldest q_youngest q_knowns q_known q_weight q_chance q_digs q_draft q_isKept cA s_trace s_typed s_earliest s_latest s_firstYear s_rings s_depths s_far s_tune) H → va_D A (w_X12_spread a0 q_depths q_far q_tune q_text q_books q_told q_years q_months q_ring q_woods q_ends q_wood q_sheets q_marsh q_oldest q_youngest q_knowns q_known q_weight q_chance q_digs q_draft q_isKept cA s_trace s_typed s_earliest s_latest s_firstYear s_rings s_depths s_far s_tune) → va_S A s.heap H locs → ∀ ls : Array Slot, lv_has ls 4 [(0, .ref a0), (1, .int x1)] → W p l e rm_X12_spread s m args below meth c H locs 0 0 (MQ below (CQ D none (w_X12_spread a0 q_depths q_far q_tune q_text q_books q_told q_years q_months q_ring q_woods q_ends q_wood q_sheets q_marsh q_oldest q_youngest q_knowns q_known q_weight q_chance q_digs q_draft q_isKept cA s_trace s_typed s_earliest s_latest s_firstYear s_rings s_depths o_far s_tune) A) args s 0 0 A) (F0 m 2 ls [])) {r10 : (Int32) → (Int32) → (Nat → Int32) → Option ((Nat → Int32))} (hr10 : ∀ (x1 : Int32) (x2 : Int32) (s_far : Nat → Int32), r10 x1 x2 s_far = some o_far → ∀ (H : Heap) (locs : List Loc), va_P D vwCl (w_X12_spread a0 q_depths q_far q_tune q_text q_books q_told q_years q_months q_ring q_woods q_ends q_wood q_sheets q_marsh q_oldest q_youngest q_knowns q_known q_weight q_chance q_digs q_draft q_isKept cA s_trace s_typed s_earliest s_latest s_firstYear s_rings s_depths s_far s_tune) H → va_D A (w_X12_spread a0 q_depths q_far q_tune q_text q_books q_told q_years q_months q_ring q_woods q_ends q_wood q_sheets q_marsh q_oldest q_youngest q_knowns q_known q_weight q_chance q_digs q_draft q_isKept cA s_trace s_typed s_earliest s_latest s_firstYear s_rings s_depths s_far s_tune) → va_S A s.heap H locs → ∀ ls : Array Slot, lv_has ls 4 [(0, .ref a0), (1, .int x1), (2, .int x2)] → W p l e rm_X12_spread s m args below meth c H locs 0 0 (MQ below (CQ D none (w_X12_spread a0 q_depths q_far q_tune q_text q_books q_told q_years q_months q_ring q_woods q_ends q_wood q_sheets q_marsh q_oldest q_youngest q_knowns q_known q_weight q_chance q_digs q_draft q_isKept cA s_trace s_typed s_earliest s_latest s_firstYear s_rings s_depths o_far s_tune) A) args s 0 0 A) (F0 m 10 ls [])) : ∀ (x2 : Int32) (x3 : Int32) (z0 : Int32) (s_far : Nat → Int32), f_X12_spread_55 r2 r10 s_depths s_tune x2 x3 z0 s_far = some o_far → ∀ (H : Heap) (locs : List Loc), va_P D vwCl (w_X12_spread a0 q_depths q_far q_tune q_text q_books q_told q_years q_months q_ring q_woods q_ends q_wood q_sheets q_marsh q_oldest q_youngest q_knowns q_known q_weight q_chance q_digs q_draft q_isKept cA s_trace s_typed s_earliest s_latest s_firstYear s_rings s_depths s_far s_tune) H → va_D A (w_X12_spread a0 q_depths q_far q_tune q_text q_books q_told q_years q_months q_ring q_woods q_ends q_wood q_sheets q_marsh q_oldest q_youngest q_knowns q_known q_weight q_chance q_digs q_draft q_isKept cA s_trace s_typed s_earliest s_latest s_firstYear s_rings s_depths s_far s_tune) → va_S A s.heap H locs → ∀ ls : Array Slot, lv_has ls 4 [(0, .ref a0), (2, .int x2), (3, .int x3)] → W p l e rm_X12_spread s m args below meth c H locs 0 0 (MQ below (CQ D none (w_X12_spread a0 q_depths q_far q_tune q_text q_books q_told q_years q_months q_ring q_woods q_ends q_wood q_sheets q_marsh q_oldest q_youngest q_knowns q_known q_weight q_chance q_digs q_draft q_isKept cA s_trace s_typed s_earliest s_latest s_firstYear s_rings s_depths o_far s_tune) A) args s 0 0 A) (F0 m 55 ls [.int z0]) := by
  obtain ⟨hx, hb, hml, hown, hts, hr, hlocks, hX⟩ := C0
  have hK := hX.1
  have hN := hX.2
  intro x2 x3 z0 s_far hf H locs hP hD hS ls hl
  unfold f_X12_spread_55 at hf
  refine lv_istore_n (lv' := [(1, .int z0), (0, .ref a0), (2, .int x2), (3, .int x3)]) hx hb dX12_spread_55 rfl hl (by decide) rfl (fun ls hl => ?_)
  refine lv_aload_n hx hb dX12_spread_56 rfl (lv_at hl 1 rfl) ?_
  refine va_get (D := D) (ci := 12) (v := .ref q_far) (C := RX12) (T := TX12) (N := 29) hx hb hts hn_X12_spread_X12 hown hK hP 0 rfl rfl 5 (by decide) (hts _ hw_X12_spread_f20) (fun _ h9 => h9) rfl dX12_spread_57 ?_
  refine lv_iload_n hx hb dX12_spread_60 rfl (lv_at hl 2 rfl) ?_
  refine lv_iload_n hx hb dX12_spread_61 rfl (lv_at hl 3 rfl) ?_
  obtain ⟨g_1, hf⟩ := pgd_e hf
  refine va_iast hx hb hK hP hD hS 2 1 rfl rfl g_1 dX12_spread_62 (fun H locs hP hD hS => ?_)
  obtain ⟨f_2, ef_2⟩ : ∃ z : Nat → Int32, z = upd s_far x2.toNatClampNeg x3 := ⟨_, rfl⟩
  have hf := plt_e ef_2 hf
  have hP : va_P D vwCl (w_X12_spread a0 q_depths q_far q_tune q_text q_books q_told q_years q_months q_ring q_woods q_ends q_wood q_sheets q_marsh q_oldest q_youngest q_knowns q_known q_weight q_chance q_digs q_draft q_isKept cA s_trace s_typed s_earliest s_latest s_firstYear s_rings s_depths f_2 s_tune) H := by rw [ef_2]; exact hP
  have hD : va_D A (w_X12_spread a0 q_depths q_far q_tune q_text q_books q_told q_years q_months q_ring q_woods q_ends q_wood q_sheets q_marsh q_oldest q_youngest q_knowns q_known q_weight q_chance q_digs q_draft q_isKept cA s_trace s_typed s_earliest s_latest s_firstYear s_rings s_depths f_2 s_tune) := by rw [ef_2]; exact hD
  obtain ⟨x2_3, ex2_3⟩ : ∃ z : Int32, z = x2 + (1 : Int32) := ⟨_, rfl⟩
  have hf := plt_e ex2_3 hf
  refine lv_iinc (v := x2_3) (lv' := [(2, .int x2_3), (1, .int z0), (0, .ref a0), (3, .int x3)]) hx hb dX12_spread_63 hl (k := 2) rfl (by rw [ex2_3]; rfl) (by decide) rfl (fun ls hl => ?_)
  refine lv_goto (tgt := 10) hx hb dX12_spread_66 (by decide) ?_
  exact hr10 z0 x2_3 f_2 hf _ _ hP hD hS ls (lv_sub hl [2, 1, 0] rfl)

def f_X12_spread_50 (r2 : (Int32) → (Nat → Int32) → Option ((Nat → Int32))) (r10 : (Int32) → (Int32) → (Nat → Int32) → Option ((Nat → Int32))) (s_depths : Nat → Int32) (s_tune : Nat → Int32) (x2 : Int32) (x3 : Int32) (s_far : Nat → Int32) : Option ((Nat → Int32)) :=
  f_X12_spread_55 r2 r10 s_depths s_tune x2 x3 (1 : Int32) s_far

set_option maxRecDepth 100000 in
set_option maxHeartbeats 4000000 in
theorem k_X12_spread_50 {p : Program} {l : Launch} {e : Env} {s : State} {m : MethodId} {args : Array Value} {below : List Frame} {meth : Method} {c : Code} {A : Nat → Prop} {D : va_G} {cA : Nat → ClassId} (C0 : MX p s m args meth c cX12_spread 4 wsX12_spread RX12 none D cA) (hA : ∀ q, s.heap.size ≤ q → A q) {a0 : Nat} {q_depths : Nat} {q_far : Nat} {q_tune : Nat} {q_text : Nat} {q_books : Nat} {q_told : Nat} {q_years : Nat} {q_months : Nat} {q_ring : Nat} {q_woods : Nat} {q_ends : Nat} {q_wood : Nat} {q_sheets : Nat} {q_marsh : Nat} {q_oldest : Nat} {q_youngest : Nat} {q_knowns : Nat} {q_known : Nat} {q_weight : Nat} {q_chance : Nat} {q_digs : Nat} {q_draft : Nat} {q_isKept : Nat} {s_trace : Int64} {s_typed : Int32} {s_earliest : Int32} {s_latest : Int32} {s_firstYear : Int32} {s_rings : Int32} {s_depths : Nat → Int32} {s_tune : Nat → Int32} {o_far : Nat → Int32} {r2 : (Int32) → (Nat → Int32) → Option ((Nat → Int32))} (hr2 : ∀ (x1 : Int32) (s_far : Nat → Int32), r2 x1 s_far = some o_far → ∀ (H : Heap) (locs : List Loc), va_P D vwCl (w_X12_spread a0 q_depths q_far q_tune q_text q_books q_told q_years q_months q_ring q_woods q_ends q_wood q_sheets q_marsh q_oldest q_youngest q_knowns q_known q_weight q_chance q_digs q_draft q_isKept cA s_trace s_typed s_earliest s_latest s_firstYear s_rings s_depths s_far s_tune) H → va_D A (w_X12_spread a0 q_depths q_far q_tune q_text q_books q_told q_years q_months q_ring q_woods q_ends q_wood q_sheets q_marsh q_oldest q_youngest q_knowns q_known q_weight q_chance q_digs q_draft q_isKept cA s_trace s_typed s_earliest s_latest s_firstYear s_rings s_depths s_far s_tune) → va_S A s.heap H locs → ∀ ls : Array Slot, lv_has ls 4 [(0, .ref a0), (1, .int x1)] → W p l e rm_X12_spread s m args below meth c H locs 0 0 (MQ below (CQ D none (w_X12_spread a0 q_depths q_far q_tune q_text q_books q_told q_years q_months q_ring q_woods q_ends q_wood q_sheets q_marsh q_oldest q_youngest q_knowns q_known q_weight q_chance q_digs q_draft q_isKept cA s_trace s_typed s_earliest s_latest s_firstYear s_rings s_depths o_far s_tune) A) args s 0 0 A) (F0 m 2 ls [])) {r10 : (Int32) → (Int32) → (Nat → Int32) → Option ((Nat → Int32))} (hr10 : ∀ (x1 : Int32) (x2 : Int32) (s_far : Nat → Int32), r10 x1 x2 s_far = some o_far → ∀ (H : Heap) (locs : List Loc), va_P D vwCl (w_X12_spread a0 q_depths q_far q_tune q_text q_books q_told q_years q_months q_ring q_woods q_ends q_wood q_sheets q_marsh q_oldest q_youngest q_knowns q_known q_weight q_chance q_digs q_draft q_isKept cA s_trace s_typed s_earliest s_latest s_firstYear s_rings s_depths s_far s_tune) H → va_D A (w_X12_spread a0 q_depths q_far q_tune q_text q_books q_told q_years q_months q_ring q_woods q_ends q_wood q_sheets q_marsh q_oldest q_youngest q_knowns q_known q_weight q_chance q_digs q_draft q_isKept cA s_trace s_typed s_earliest s_latest s_firstYear s_rings s_depths s_far s_tune) → va_S A s.heap H locs → ∀ ls : Array Slot, lv_has ls 4 [(0, .ref a0), (1, .int x1), (2, .int x2)] → W p l e rm_X12_spread s m args below meth c H locs 0 0 (MQ below (CQ D none (w_X12_spread a0 q_depths q_far q_tune q_text q_books q_told q_years q_months q_ring q_woods q_ends q_wood q_sheets q_marsh q_oldest q_youngest q_knowns q_known q_weight q_chance q_digs q_draft q_isKept cA s_trace s_typed s_earliest s_latest s_firstYear s_rings s_depths o_far s_tune) A) args s 0 0 A) (F0 m 10 ls [])) : ∀ (x2 : Int32) (x3 : Int32) (s_far : Nat → Int32), f_X12_spread_50 r2 r10 s_depths s_tune x2 x3 s_far = some o_far → ∀ (H : Heap) (locs : List Loc), va_P D vwCl (w_X12_spread a0 q_depths q_far q_tune q_text q_books q_told q_years q_months q_ring q_woods q_ends q_wood q_sheets q_marsh q_oldest q_youngest q_knowns q_known q_weight q_chance q_digs q_draft q_isKept cA s_trace s_typed s_earliest s_latest s_firstYear s_rings s_depths s_far s_tune) H → va_D A (w_X12_spread a0 q_depths q_far q_tune q_text q_books q_told q_years q_months q_ring q_woods q_ends q_wood q_sheets q_marsh q_oldest q_youngest q_knowns q_known q_weight q_chance q_digs q_draft q_isKept cA s_trace s_typed s_earliest s_latest s_firstYear s_rings s_depths s_far s_tune) → va_S A s.heap H locs → ∀ ls : Array Slot, lv_has ls 4 [(0, .ref a0), (2, .int x2), (3, .int x3)] → W p l e rm_X12_spread s m args below meth c H locs 0 0 (MQ below (CQ D none (w_X12_spread a0 q_depths q_far q_tune q_text q_books q_told q_years q_months q_ring q_woods q_ends q_wood q_sheets q_marsh q_oldest q_youngest q_knowns q_known q_weight q_chance q_digs q_draft q_isKept cA s_trace s_typed s_earliest s_latest s_firstYear s_rings s_depths o_far s_tune) A) args s 0 0 A) (F0 m 50 ls []) := by
  obtain ⟨hx, hb, hml, hown, hts, hr, hlocks, hX⟩ := C0
  have hK := hX.1
  have hN := hX.2
  intro x2 x3 s_far hf H locs hP hD hS ls hl
  unfold f_X12_spread_50 at hf
  refine lv_iconst (v := (1 : Int32)) hx hb dX12_spread_50 (by decide) ?_
  refine lv_goto (tgt := 55) hx hb dX12_spread_51 (by decide) ?_
  exact k_X12_spread_55 ⟨hx, hb, hml, hown, hts, hr, hlocks, hX⟩ hA hr2 hr10 x2 x3 (1 : Int32) s_far hf _ _ hP hD hS ls (lv_sub hl [0, 1, 2] rfl)

def f_X12_spread_35 (r2 : (Int32) → (Nat → Int32) → Option ((Nat → Int32))) (r10 : (Int32) → (Int32) → (Nat → Int32) → Option ((Nat → Int32))) (s_depths : Nat → Int32) (s_tune : Nat → Int32) (x1 : Int32) (x2 : Int32) (z0 : Int32) (s_far : Nat → Int32) : Option ((Nat → Int32)) :=
  pbr (x1 = 0)
    (pgd (pin x2 48) (
    pbr ((s_far x2.toNatClampNeg) ≤ z0)
      (f_X12_spread_55 r2 r10 s_depths s_tune x2 z0 (0 : Int32) s_far)
      (f_X12_spread_50 r2 r10 s_depths s_tune x2 z0 s_far)))
    (f_X12_spread_50 r2 r10 s_depths s_tune x2 z0 s_far)

set_option maxRecDepth 100000 in
set_option maxHeartbeats 4000000 in
theorem k_X12_spread_35 {p : Program} {l : Launch} {e : Env} {s : State} {m : MethodId} {args : Array Value} {below : List Frame} {meth : Method} {c : Code} {A : Nat → Prop} {D : va_G} {cA : Nat → ClassId} (C0 : MX p s m args meth c cX12_spread 4 wsX12_spread RX12 none D cA) (hA : ∀ q, s.heap.size ≤ q → A q) {a0 : Nat} {q_depths : Nat} {q_far : Nat} {q_tune : Nat} {q_text : Nat} {q_books : Nat} {q_told : Nat} {q_years : Nat} {q_months : Nat} {q_ring : Nat} {q_woods : Nat} {q_ends : Nat} {q_wood : Nat} {q_sheets : Nat} {q_marsh : Nat} {q_oldest : Nat} {q_youngest : Nat} {q_knowns : Nat} {q_known : Nat} {q_weight : Nat} {q_chance : Nat} {q_digs : Nat} {q_draft : Nat} {q_isKept : Nat} {s_trace : Int64} {s_typed : Int32} {s_earliest : Int32} {s_latest : Int32} {s_firstYear : Int32} {s_rings : Int32} {s_depths : Nat → Int32} {s_tune : Nat → Int32} {o_far : Nat → Int32} {r2 : (Int32) → (Nat → Int32) → Option ((Nat → Int32))} (hr2 : ∀ (x1 : Int32) (s_far : Nat → Int32), r2 x1 s_far = some o_far → ∀ (H : Heap) (locs : List Loc), va_P D vwCl (w_X12_spread a0 q_depths q_far q_tune q_text q_books q_told q_years q_months q_ring q_woods q_ends q_wood q_sheets q_marsh q_oldest q_youngest q_knowns q_known q_weight q_chance q_digs q_draft q_isKept cA s_trace s_typed s_earliest s_latest s_firstYear s_rings s_depths s_far s_tune) H → va_D A (w_X12_spread a0 q_depths q_far q_tune q_text q_books q_told q_years q_months q_ring q_woods q_ends q_wood q_sheets q_marsh q_oldest q_youngest q_knowns q_known q_weight q_chance q_digs q_draft q_isKept cA s_trace s_typed s_earliest s_latest s_firstYear s_rings s_depths s_far s_tune) → va_S A s.heap H locs → ∀ ls : Array Slot, lv_has ls 4 [(0, .ref a0), (1, .int x1)] → W p l e rm_X12_spread s m args below meth c H locs 0 0 (MQ below (CQ D none (w_X12_spread a0 q_depths q_far q_tune q_text q_books q_told q_years q_months q_ring q_woods q_ends q_wood q_sheets q_marsh q_oldest q_youngest q_knowns q_known q_weight q_chance q_digs q_draft q_isKept cA s_trace s_typed s_earliest s_latest s_firstYear s_rings s_depths o_far s_tune) A) args s 0 0 A) (F0 m 2 ls [])) {r10 : (Int32) → (Int32) → (Nat → Int32) → Option ((Nat → Int32))} (hr10 : ∀ (x1 : Int32) (x2 : Int32) (s_far : Nat → Int32), r10 x1 x2 s_far = some o_far → ∀ (H : Heap) (locs : List Loc), va_P D vwCl (w_X12_spread a0 q_depths q_far q_tune q_text q_books q_told q_years q_months q_ring q_woods q_ends q_wood q_sheets q_marsh q_oldest q_youngest q_knowns q_known q_weight q_chance q_digs q_draft q_isKept cA s_trace s_typed s_earliest s_latest s_firstYear s_rings s_depths s_far s_tune) H → va_D A (w_X12_spread a0 q_depths q_far q_tune q_text q_books q_told q_years q_months q_ring q_woods q_ends q_wood q_sheets q_marsh q_oldest q_youngest q_knowns q_known q_weight q_chance q_digs q_draft q_isKept cA s_trace s_typed s_earliest s_latest s_firstYear s_rings s_depths s_far s_tune) → va_S A s.heap H locs → ∀ ls : Array Slot, lv_has ls 4 [(0, .ref a0), (1, .int x1), (2, .int x2)] → W p l e rm_X12_spread s m args below meth c H locs 0 0 (MQ below (CQ D none (w_X12_spread a0 q_depths q_far q_tune q_text q_books q_told q_years q_months q_ring q_woods q_ends q_wood q_sheets q_marsh q_oldest q_youngest q_knowns q_known q_weight q_chance q_digs q_draft q_isKept cA s_trace s_typed s_earliest s_latest s_firstYear s_rings s_depths o_far s_tune) A) args s 0 0 A) (F0 m 10 ls [])) : ∀ (x1 : Int32) (x2 : Int32) (z0 : Int32) (s_far : Nat → Int32), f_X12_spread_35 r2 r10 s_depths s_tune x1 x2 z0 s_far = some o_far → ∀ (H : Heap) (locs : List Loc), va_P D vwCl (w_X12_spread a0 q_depths q_far q_tune q_text q_books q_told q_years q_months q_ring q_woods q_ends q_wood q_sheets q_marsh q_oldest q_youngest q_knowns q_known q_weight q_chance q_digs q_draft q_isKept cA s_trace s_typed s_earliest s_latest s_firstYear s_rings s_depths s_far s_tune) H → va_D A (w_X12_spread a0 q_depths q_far q_tune q_text q_books q_told q_years q_months q_ring q_woods q_ends q_wood q_sheets q_marsh q_oldest q_youngest q_knowns q_known q_weight q_chance q_digs q_draft q_isKept cA s_trace s_typed s_earliest s_latest s_firstYear s_rings s_depths s_far s_tune) → va_S A s.heap H locs → ∀ ls : Array Slot, lv_has ls 4 [(0, .ref a0), (1, .int x1), (2, .int x2)] → W p l e rm_X12_spread s m args below meth c H locs 0 0 (MQ below (CQ D none (w_X12_spread a0 q_depths q_far q_tune q_text q_books q_told q_years q_months q_ring q_woods q_ends q_wood q_sheets q_marsh q_oldest q_youngest q_knowns q_known q_weight q_chance q_digs q_draft q_isKept cA s_trace s_typed s_earliest s_latest s_firstYear s_rings s_depths o_far s_tune) A) args s 0 0 A) (F0 m 35 ls [.int z0]) := by
  obtain ⟨hx, hb, hml, hown, hts, hr, hlocks, hX⟩ := C0
  have hK := hX.1
  have hN := hX.2
  intro x1 x2 z0 s_far hf H locs hP hD hS ls hl
  unfold f_X12_spread_35 at hf
  refine lv_istore_n (lv' := [(3, .int z0), (0, .ref a0), (1, .int x1), (2, .int x2)]) hx hb dX12_spread_35 rfl hl (by decide) rfl (fun ls hl => ?_)
  refine lv_iload_n hx hb dX12_spread_36 rfl (lv_at hl 2 rfl) ?_
  refine lv_if_ne (tgt := 50) hx hb dX12_spread_37 (by decide) (fun c_1 => ?_) (fun c_1 => ?_)
  · have hf := pbr_f c_1 hf
    exact k_X12_spread_50 ⟨hx, hb, hml, hown, hts, hr, hlocks, hX⟩ hA hr2 hr10 x2 z0 s_far hf _ _ hP hD hS ls (lv_sub hl [1, 3, 0] rfl)
  have hf := pbr_t c_1 hf
  refine lv_iload_n hx hb dX12_spread_40 rfl (lv_at hl 0 rfl) ?_
  refine lv_aload_n hx hb dX12_spread_41 rfl (lv_at hl 1 rfl) ?_
  refine va_get (D := D) (ci := 12) (v := .ref q_far) (C := RX12) (T := TX12) (N := 29) hx hb hts hn_X12_spread_X12 hown hK hP 0 rfl rfl 5 (by decide) (hts _ hw_X12_spread_f20) (fun _ h9 => h9) rfl dX12_spread_42 ?_
  refine lv_iload_n hx hb dX12_spread_45 rfl (lv_at hl 3 rfl) ?_
  obtain ⟨g_2, hf⟩ := pgd_e hf
  refine va_iald hx hb hK hP 2 1 rfl rfl g_2 dX12_spread_46 ?_
  refine lv_icmp_ge (tgt := 54) hx hb dX12_spread_47 (by decide) (fun c_3 => ?_) (fun c_3 => ?_)
  · have hf := pbr_t c_3 hf
    refine lv_iconst (v := (0 : Int32)) hx hb dX12_spread_54 (by decide) ?_
    exact k_X12_spread_55 ⟨hx, hb, hml, hown, hts, hr, hlocks, hX⟩ hA hr2 hr10 x2 z0 (0 : Int32) s_far hf _ _ hP hD hS ls (lv_sub hl [1, 3, 0] rfl)
  have hf := pbr_f c_3 hf
  exact k_X12_spread_50 ⟨hx, hb, hml, hown, hts, hr, hlocks, hX⟩ hA hr2 hr10 x2 z0 s_far hf _ _ hP hD hS ls (lv_sub hl [1, 3, 0] rfl)

def f_X12_spread_10 (r2 : (Int32) → (Nat → Int32) → Option ((Nat → Int32))) (s_depths : Nat → Int32) (s_tune : Nat → Int32) : Nat → (Int32) → (Int32) → (Nat → Int32) → Option ((Nat → Int32))
  | 0, _, _, _ => none
  | k + 1, x1, x2, s_far =>
    pbr ((48 : Int32) ≤ x2)
      (r2 x1 s_far)
      (pgd (pin x2 96) (
      pbr ((s_depths x2.toNatClampNeg) ≤ 0)
        (f_X12_spread_35 r2 (f_X12_spread_10 r2 s_depths s_tune k) s_depths s_tune x1 x2 (1000000 : Int32) s_far)
        (pcl (f_X12_into x2 s_far s_tune s_depths) (fun r_4 => (
        f_X12_spread_35 r2 (f_X12_spread_10 r2 s_depths s_tune k) s_depths s_tune x1 x2 r_4 s_far)))))

set_option maxRecDepth 100000 in
set_option maxHeartbeats 4000000 in
theorem k_X12_spread_10 {p : Program} {l : Launch} {e : Env} {s : State} {m : MethodId} {args : Array Value} {below : List Frame} {meth : Method} {c : Code} {A : Nat → Prop} {D : va_G} {cA : Nat → ClassId} (C0 : MX p s m args meth c cX12_spread 4 wsX12_spread RX12 none D cA) (hA : ∀ q, s.heap.size ≤ q → A q) {a0 : Nat} {q_depths : Nat} {q_far : Nat} {q_tune : Nat} {q_text : Nat} {q_books : Nat} {q_told : Nat} {q_years : Nat} {q_months : Nat} {q_ring : Nat} {q_woods : Nat} {q_ends : Nat} {q_wood : Nat} {q_sheets : Nat} {q_marsh : Nat} {q_oldest : Nat} {q_youngest : Nat} {q_knowns : Nat} {q_known : Nat} {q_weight : Nat} {q_chance : Nat} {q_digs : Nat} {q_draft : Nat} {q_isKept : Nat} {s_trace : Int64} {s_typed : Int32} {s_earliest : Int32} {s_latest : Int32} {s_firstYear : Int32} {s_rings : Int32} {s_depths : Nat → Int32} {s_tune : Nat → Int32} {o_far : Nat → Int32} {r2 : (Int32) → (Nat → Int32) → Option ((Nat → Int32))} (hr2 : ∀ (x1 : Int32) (s_far : Nat → Int32), r2 x1 s_far = some o_far → ∀ (H : Heap) (locs : List Loc), va_P D vwCl (w_X12_spread a0 q_depths q_far q_tune q_text q_books q_told q_years q_months q_ring q_woods q_ends q_wood q_sheets q_marsh q_oldest q_youngest q_knowns q_known q_weight q_chance q_digs q_draft q_isKept cA s_trace s_typed s_earliest s_latest s_firstYear s_rings s_depths s_far s_tune) H → va_D A (w_X12_spread a0 q_depths q_far q_tune q_text q_books q_told q_years q_months q_ring q_woods q_ends q_wood q_sheets q_marsh q_oldest q_youngest q_knowns q_known q_weight q_chance q_digs q_draft q_isKept cA s_trace s_typed s_earliest s_latest s_firstYear s_rings s_depths s_far s_tune) → va_S A s.heap H locs → ∀ ls : Array Slot, lv_has ls 4 [(0, .ref a0), (1, .int x1)] → W p l e rm_X12_spread s m args below meth c H locs 0 0 (MQ below (CQ D none (w_X12_spread a0 q_depths q_far q_tune q_text q_books q_told q_years q_months q_ring q_woods q_ends q_wood q_sheets q_marsh q_oldest q_youngest q_knowns q_known q_weight q_chance q_digs q_draft q_isKept cA s_trace s_typed s_earliest s_latest s_firstYear s_rings s_depths o_far s_tune) A) args s 0 0 A) (F0 m 2 ls [])) : ∀ (k : Nat) (x1 : Int32) (x2 : Int32) (s_far : Nat → Int32), f_X12_spread_10 r2 s_depths s_tune k x1 x2 s_far = some o_far → ∀ (H : Heap) (locs : List Loc), va_P D vwCl (w_X12_spread a0 q_depths q_far q_tune q_text q_books q_told q_years q_months q_ring q_woods q_ends q_wood q_sheets q_marsh q_oldest q_youngest q_knowns q_known q_weight q_chance q_digs q_draft q_isKept cA s_trace s_typed s_earliest s_latest s_firstYear s_rings s_depths s_far s_tune) H → va_D A (w_X12_spread a0 q_depths q_far q_tune q_text q_books q_told q_years q_months q_ring q_woods q_ends q_wood q_sheets q_marsh q_oldest q_youngest q_knowns q_known q_weight q_chance q_digs q_draft q_isKept cA s_trace s_typed s_earliest s_latest s_firstYear s_rings s_depths s_far s_tune) → va_S A s.heap H locs → ∀ ls : Array Slot, lv_has ls 4 [(0, .ref a0), (1, .int x1), (2, .int x2)] → W p l e rm_X12_spread s m args below meth c H locs 0 0 (MQ below (CQ D none (w_X12_spread a0 q_depths q_far q_tune q_text q_books q_told q_years q_months q_ring q_woods q_ends q_wood q_sheets q_marsh q_oldest q_youngest q_knowns q_known q_weight q_chance q_digs q_draft q_isKept cA s_trace s_typed s_earliest s_latest s_firstYear s_rings s_depths o_far s_tune) A) args s 0 0 A) (F0 m 10 ls []) := by
  obtain ⟨hx, hb, hml, hown, hts, hr, hlocks, hX⟩ := C0
  have hK := hX.1
  have hN := hX.2
  intro k
  induction k with
  | zero =>
    intro x1 x2 s_far hf
    cases hf
  | succ k ih =>
    intro x1 x2 s_far hf H locs hP hD hS ls hl
    rw [f_X12_spread_10] at hf
    refine lv_iload_n hx hb dX12_spread_10 rfl (lv_at hl 2 rfl) ?_
    refine lv_bipush (v := (48 : Int32)) hx hb dX12_spread_11 (by decide) ?_
    refine lv_icmp_ge (tgt := 69) hx hb dX12_spread_13 (by decide) (fun c_1 => ?_) (fun c_1 => ?_)
    · have hf := pbr_t c_1 hf
      refine lv_goto (tgt := 2) hx hb dX12_spread_69 (by decide) ?_
      exact hr2 x1 s_far hf _ _ hP hD hS ls (lv_sub hl [0, 1] rfl)
    have hf := pbr_f c_1 hf
    refine lv_aload_n hx hb dX12_spread_16 rfl (lv_at hl 0 rfl) ?_
    refine va_get (D := D) (ci := 12) (v := .ref q_depths) (C := RX12) (T := TX12) (N := 29) hx hb hts hn_X12_spread_X12 hown hK hP 0 rfl rfl 3 (by decide) (hts _ hw_X12_spread_f13) (fun _ h9 => h9) rfl dX12_spread_17 ?_
    refine lv_iload_n hx hb dX12_spread_20 rfl (lv_at hl 2 rfl) ?_
    obtain ⟨g_2, hf⟩ := pgd_e hf
    refine va_iald hx hb hK hP 1 1 rfl rfl g_2 dX12_spread_21 ?_
    refine lv_if_le (tgt := 33) hx hb dX12_spread_22 (by decide) (fun c_3 => ?_) (fun c_3 => ?_)
    · have hf := pbr_t c_3 hf
      refine lv_ldc (v := (1000000 : Int32)) hx hb hown (hts _ hw_X12_spread_c107) dX12_spread_33 ?_
      exact k_X12_spread_35 ⟨hx, hb, hml, hown, hts, hr, hlocks, hX⟩ hA hr2 ih x1 x2 (1000000 : Int32) s_far hf _ _ hP hD hS ls (lv_sub hl [0, 1, 2] rfl)
    have hf := pbr_f c_3 hf
    refine lv_aload_n hx hb dX12_spread_25 rfl (lv_at hl 0 rfl) ?_
    refine lv_iload_n hx hb dX12_spread_26 rfl (lv_at hl 2 rfl) ?_
    obtain ⟨r_4, hc_5, hf⟩ := pcl_e hf
    refine m_callV2 (As := [.int x2]) (rest := []) ⟨hx, hb, hml, hown, hts⟩ hX (ct_X12_into l D cA x2 a0 q_far q_tune q_depths q_text q_books q_told q_years q_months q_ring q_woods q_ends q_wood q_sheets q_marsh q_oldest q_youngest q_knowns q_known q_weight q_chance q_digs q_draft q_isKept s_trace s_typed s_earliest s_latest s_firstYear s_rings s_far s_tune s_depths r_4 hc_5) (cwV 1 hts gX12_spread_X12_into rfl rfl rfl (by decide +kernel) ⟨Nat.le_of_ble_eq_true rfl, Nat.le_of_ble_eq_true rfl⟩) hP hD hS hA [0, 2, 3, 1] [] 4 (by decide) rfl rfl (WS' := (w_X12_spread a0 q_depths q_far q_tune q_text q_books q_told q_years q_months q_ring q_woods q_ends q_wood q_sheets q_marsh q_oldest q_youngest q_knowns q_known q_weight q_chance q_digs q_draft q_isKept cA s_trace s_typed s_earliest s_latest s_firstYear s_rings s_depths s_far s_tune)) (WR := []) rfl rfl rfl rfl (by decide) (by decide) 0 12 rfl rfl rfl hl.1 rfl (st' := [.int r_4]) rfl (Nat.le_of_ble_eq_true rfl) ⟨Nat.zero_le _, Nat.zero_le _⟩ dX12_spread_27 (fun H locs hP hD hS => ?_)
    refine lv_goto (tgt := 35) hx hb dX12_spread_30 (by decide) ?_
    exact k_X12_spread_35 ⟨hx, hb, hml, hown, hts, hr, hlocks, hX⟩ hA hr2 ih x1 x2 r_4 s_far hf _ _ hP hD hS ls (lv_sub hl [0, 1, 2] rfl)

def f_X12_spread_2 (s_depths : Nat → Int32) (s_tune : Nat → Int32) : Nat → (Int32) → (Nat → Int32) → Option ((Nat → Int32))
  | 0, _, _ => none
  | k + 1, x1, s_far =>
    pbr (x1 = 0)
      (some (s_far))
      (f_X12_spread_10 (f_X12_spread_2 s_depths s_tune k) s_depths s_tune FU (0 : Int32) (0 : Int32) s_far)

set_option maxRecDepth 100000 in
set_option maxHeartbeats 4000000 in
theorem k_X12_spread_2 {p : Program} {l : Launch} {e : Env} {s : State} {m : MethodId} {args : Array Value} {below : List Frame} {meth : Method} {c : Code} {A : Nat → Prop} {D : va_G} {cA : Nat → ClassId} (C0 : MX p s m args meth c cX12_spread 4 wsX12_spread RX12 none D cA) (hA : ∀ q, s.heap.size ≤ q → A q) {a0 : Nat} {q_depths : Nat} {q_far : Nat} {q_tune : Nat} {q_text : Nat} {q_books : Nat} {q_told : Nat} {q_years : Nat} {q_months : Nat} {q_ring : Nat} {q_woods : Nat} {q_ends : Nat} {q_wood : Nat} {q_sheets : Nat} {q_marsh : Nat} {q_oldest : Nat} {q_youngest : Nat} {q_knowns : Nat} {q_known : Nat} {q_weight : Nat} {q_chance : Nat} {q_digs : Nat} {q_draft : Nat} {q_isKept : Nat} {s_trace : Int64} {s_typed : Int32} {s_earliest : Int32} {s_latest : Int32} {s_firstYear : Int32} {s_rings : Int32} {s_depths : Nat → Int32} {s_tune : Nat → Int32} {o_far : Nat → Int32} : ∀ (k : Nat) (x1 : Int32) (s_far : Nat → Int32), f_X12_spread_2 s_depths s_tune k x1 s_far = some o_far → ∀ (H : Heap) (locs : List Loc), va_P D vwCl (w_X12_spread a0 q_depths q_far q_tune q_text q_books q_told q_years q_months q_ring q_woods q_ends q_wood q_sheets q_marsh q_oldest q_youngest q_knowns q_known q_weight q_chance q_digs q_draft q_isKept cA s_trace s_typed s_earliest s_latest s_firstYear s_rings s_depths s_far s_tune) H → va_D A (w_X12_spread a0 q_depths q_far q_tune q_text q_books q_told q_years q_months q_ring q_woods q_ends q_wood q_sheets q_marsh q_oldest q_youngest q_knowns q_known q_weight q_chance q_digs q_draft q_isKept cA s_trace s_typed s_earliest s_latest s_firstYear s_rings s_depths s_far s_tune) → va_S A s.heap H locs → ∀ ls : Array Slot, lv_has ls 4 [(0, .ref a0), (1, .int x1)] → W p l e rm_X12_spread s m args below meth c H locs 0 0 (MQ below (CQ D none (w_X12_spread a0 q_depths q_far q_tune q_text q_books q_told q_years q_months q_ring q_woods q_ends q_wood q_sheets q_marsh q_oldest q_youngest q_knowns q_known q_weight q_chance q_digs q_draft q_isKept cA s_trace s_typed s_earliest s_latest s_firstYear s_rings s_depths o_far s_tune) A) args s 0 0 A) (F0 m 2 ls []) := by
  obtain ⟨hx, hb, hml, hown, hts, hr, hlocks, hX⟩ := C0
  have hK := hX.1
  have hN := hX.2
  intro k
  induction k with
  | zero =>
    intro x1 s_far hf
    cases hf
  | succ k ih =>
    intro x1 s_far hf H locs hP hD hS ls hl
    rw [f_X12_spread_2] at hf
    refine lv_iload_n hx hb dX12_spread_2 rfl (lv_at hl 1 rfl) ?_
    refine lv_if_eq (tgt := 72) hx hb dX12_spread_3 (by decide) (fun c_1 => ?_) (fun c_1 => ?_)
    · have hf := pbr_t c_1 hf
      obtain rfl := pe1 hf
      exact m_vret hx hb hr hlocks hP hS dX12_spread_72
    have hf := pbr_f c_1 hf
    refine lv_iconst (v := (0 : Int32)) hx hb dX12_spread_6 (by decide) ?_
    refine lv_istore_n (lv' := [(1, .int (0 : Int32)), (0, .ref a0)]) hx hb dX12_spread_7 rfl hl (by decide) rfl (fun ls hl => ?_)
    refine lv_iconst (v := (0 : Int32)) hx hb dX12_spread_8 (by decide) ?_
    refine lv_istore_n (lv' := [(2, .int (0 : Int32)), (1, .int (0 : Int32)), (0, .ref a0)]) hx hb dX12_spread_9 rfl hl (by decide) rfl (fun ls hl => ?_)
    exact k_X12_spread_10 ⟨hx, hb, hml, hown, hts, hr, hlocks, hX⟩ hA ih FU (0 : Int32) (0 : Int32) s_far hf _ _ hP hD hS ls (lv_sub hl [2, 1, 0] rfl)

def f_X12_spread (s_depths : Nat → Int32) (s_far : Nat → Int32) (s_tune : Nat → Int32) : Option ((Nat → Int32)) :=
  f_X12_spread_2 s_depths s_tune FU (1 : Int32) s_far

set_option maxRecDepth 100000 in
set_option maxHeartbeats 4000000 in
theorem ct_X12_spread (l : Launch) (D : va_G) (cA : Nat → ClassId) (a0 : Nat) (q_depths : Nat) (q_far : Nat) (q_tune : Nat) (q_text : Nat) (q_books : Nat) (q_told : Nat) (q_years : Nat) (q_months : Nat) (q_ring : Nat) (q_woods : Nat) (q_ends : Nat) (q_wood : Nat) (q_sheets : Nat) (q_marsh : Nat) (q_oldest : Nat) (q_youngest : Nat) (q_knowns : Nat) (q_known : Nat) (q_weight : Nat) (q_chance : Nat) (q_digs : Nat) (q_draft : Nat) (q_isKept : Nat) (s_trace : Int64) (s_typed : Int32) (s_earliest : Int32) (s_latest : Int32) (s_firstYear : Int32) (s_rings : Int32) (s_depths : Nat → Int32) (s_far : Nat → Int32) (s_tune : Nat → Int32) (o_far : Nat → Int32) (hf : f_X12_spread s_depths s_far s_tune = some o_far) : CT l yX12_spread wsX12_spread rm_X12_spread D cA [.ref a0] (w_X12_spread a0 q_depths q_far q_tune q_text q_books q_told q_years q_months q_ring q_woods q_ends q_wood q_sheets q_marsh q_oldest q_youngest q_knowns q_known q_weight q_chance q_digs q_draft q_isKept cA s_trace s_typed s_earliest s_latest s_firstYear s_rings s_depths s_far s_tune) (w_X12_spread a0 q_depths q_far q_tune q_text q_books q_told q_years q_months q_ring q_woods q_ends q_wood q_sheets q_marsh q_oldest q_youngest q_knowns q_known q_weight q_chance q_digs q_draft q_isKept cA s_trace s_typed s_earliest s_latest s_firstYear s_rings s_depths o_far s_tune) none := by
  refine CT.ofW (cc := cX12_spread) (maxL := 4) (ret := none) (by decide +kernel) rfl (Nat.le_of_ble_eq_true rfl) ?_
  intro p e s m below meth c A C0 hA hP hD ls hl
  have C0 : MX p s m [.ref a0].toArray meth c cX12_spread 4 wsX12_spread RX12 none D cA := C0
  have hl : lv_has ls 4 [(0, .ref a0)] := hl
  obtain ⟨hx, hb, hml, hown, hts, hr, hlocks, hX⟩ := id C0
  have hK := hX.1
  have hN := hX.2
  have hS : va_S A s.heap s.heap [] := va_S.rf
  unfold f_X12_spread at hf
  refine lv_iconst (v := (1 : Int32)) hx hb dX12_spread_0 (by decide) ?_
  refine lv_istore_n (lv' := [(1, .int (1 : Int32)), (0, .ref a0)]) hx hb dX12_spread_1 rfl hl (by decide) rfl (fun ls hl => ?_)
  exact k_X12_spread_2 C0 hA FU (1 : Int32) s_far hf _ _ hP hD hS ls (lv_sub hl [1, 0] rfl)

/-! ===== OrphanWaveModel.begin(I)V ===== -/
abbrev rm_X12_begin : Room := { frames := 2, cells := 0, slots := 0, locals := 46 }
abbrev w_X12_begin (a0 : Nat) (q_depths : Nat) (q_far : Nat) (q_tune : Nat) (q_text : Nat) (q_books : Nat) (q_told : Nat) (q_years : Nat) (q_months : Nat) (q_ring : Nat) (q_woods : Nat) (q_ends : Nat) (q_wood : Nat) (q_sheets : Nat) (q_marsh : Nat) (q_oldest : Nat) (q_youngest : Nat) (q_knowns : Nat) (q_known : Nat) (q_weight : Nat) (q_chance : Nat) (q_digs : Nat) (q_draft : Nat) (q_isKept : Nat) (cA : Nat → ClassId) (s_trace : Int64) (s_typed : Int32) (s_earliest : Int32) (s_latest : Int32) (s_firstYear : Int32) (s_rings : Int32) (s_depths : Nat → Int32) (s_far : Nat → Int32) (s_tune : Nat → Int32) : va_W := [(a0, .inr (12, [.long s_trace, .ref q_text, .int s_typed, .ref q_depths, .ref q_tune, .ref q_far, .ref q_books, .ref q_told, .int s_earliest, .int s_latest, .ref q_years, .ref q_months, .int s_firstYear, .int s_rings, .ref q_ring, .ref q_woods, .ref q_ends, .ref q_wood, .ref q_sheets, .ref q_marsh, .ref q_oldest, .ref q_youngest, .ref q_knowns, .ref q_known, .ref q_weight, .ref q_chance, .ref q_digs, .ref q_draft, .ref q_isKept])), (q_depths, .inl (cA 1, 96, .inl s_depths)), (q_far, .inl (cA 1, 48, .inl s_far)), (q_tune, .inl (cA 1, 3, .inl s_tune))]
theorem hn_X12_begin_X12 : ∀ w ∈ u_ws RX12 TX12 29, w ∈ wsX12_begin := by decide +kernel
theorem hw_X12_begin_f20 : Cond.fieldLink RX12 20 "OrphanWaveModel" "far" "[I" ∈ wsX12_begin := by decide +kernel
theorem hw_X12_begin_f13 : Cond.fieldLink RX12 13 "OrphanWaveModel" "depths" "[I" ∈ wsX12_begin := by decide +kernel
theorem hw_X12_begin_c107 : Cond.constant RX12 107 (1000000) ∈ wsX12_begin := by decide +kernel

def f_X12_begin_31 (r2 : (Int32) → (Nat → Int32) → Option ((Nat → Int32))) (s_depths : Nat → Int32) (s_tune : Nat → Int32) (x1 : Int32) (x2 : Int32) (z1 : Int32) (s_far : Nat → Int32) : Option ((Nat → Int32)) :=
  pgd (pin z1 48) (
  plt (upd s_far z1.toNatClampNeg (1000000 : Int32) : Nat → Int32) (fun f_2 => (
  plt (x2 + (1 : Int32) : Int32) (fun x2_3 => (
  r2 x2_3 f_2)))))

set_option maxRecDepth 100000 in
set_option maxHeartbeats 4000000 in
theorem k_X12_begin_31 {p : Program} {l : Launch} {e : Env} {s : State} {m : MethodId} {args : Array Value} {below : List Frame} {meth : Method} {c : Code} {A : Nat → Prop} {D : va_G} {cA : Nat → ClassId} (C0 : MX p s m args meth c cX12_begin 3 wsX12_begin RX12 none D cA) (hA : ∀ q, s.heap.size ≤ q → A q) {a0 : Nat} {q_depths : Nat} {q_far : Nat} {q_tune : Nat} {q_text : Nat} {q_books : Nat} {q_told : Nat} {q_years : Nat} {q_months : Nat} {q_ring : Nat} {q_woods : Nat} {q_ends : Nat} {q_wood : Nat} {q_sheets : Nat} {q_marsh : Nat} {q_oldest : Nat} {q_youngest : Nat} {q_knowns : Nat} {q_known : Nat} {q_weight : Nat} {q_chance : Nat} {q_digs : Nat} {q_draft : Nat} {q_isKept : Nat} {s_trace : Int64} {s_typed : Int32} {s_earliest : Int32} {s_latest : Int32} {s_firstYear : Int32} {s_rings : Int32} {s_depths : Nat → Int32} {s_tune : Nat → Int32} {x1 : Int32} {o_far : Nat → Int32} {r2 : (Int32) → (Nat → Int32) → Option ((Nat → Int32))} (hr2 : ∀ (x2 : Int32) (s_far : Nat → Int32), r2 x2 s_far = some o_far → ∀ (H : Heap) (locs : List Loc), va_P D vwCl (w_X12_begin a0 q_depths q_far q_tune q_text q_books q_told q_years q_months q_ring q_woods q_ends q_wood q_sheets q_marsh q_oldest q_youngest q_knowns q_known q_weight q_chance q_digs q_draft q_isKept cA s_trace s_typed s_earliest s_latest s_firstYear s_rings s_depths s_far s_tune) H → va_D A (w_X12_begin a0 q_depths q_far q_tune q_text q_books q_told q_years q_months q_ring q_woods q_ends q_wood q_sheets q_marsh q_oldest q_youngest q_knowns q_known q_weight q_chance q_digs q_draft q_isKept cA s_trace s_typed s_earliest s_latest s_firstYear s_rings s_depths s_far s_tune) → va_S A s.heap H locs → ∀ ls : Array Slot, lv_has ls 3 [(0, .ref a0), (1, .int x1), (2, .int x2)] → W p l e rm_X12_begin s m args below meth c H locs 0 0 (MQ below (CQ D none (w_X12_begin a0 q_depths q_far q_tune q_text q_books q_told q_years q_months q_ring q_woods q_ends q_wood q_sheets q_marsh q_oldest q_youngest q_knowns q_known q_weight q_chance q_digs q_draft q_isKept cA s_trace s_typed s_earliest s_latest s_firstYear s_rings s_depths o_far s_tune) A) args s 0 0 A) (F0 m 2 ls [])) : ∀ (x2 : Int32) (z1 : Int32) (s_far : Nat → Int32), f_X12_begin_31 r2 s_depths s_tune x1 x2 z1 s_far = some o_far → ∀ (H : Heap) (locs : List Loc), va_P D vwCl (w_X12_begin a0 q_depths q_far q_tune q_text q_books q_told q_years q_months q_ring q_woods q_ends q_wood q_sheets q_marsh q_oldest q_youngest q_knowns q_known q_weight q_chance q_digs q_draft q_isKept cA s_trace s_typed s_earliest s_latest s_firstYear s_rings s_depths s_far s_tune) H → va_D A (w_X12_begin a0 q_depths q_far q_tune q_text q_books q_told q_years q_months q_ring q_woods q_ends q_wood q_sheets q_marsh q_oldest q_youngest q_knowns q_known q_weight q_chance q_digs q_draft q_isKept cA s_trace s_typed s_earliest s_latest s_firstYear s_rings s_depths s_far s_tune) → va_S A s.heap H locs → ∀ ls : Array Slot, lv_has ls 3 [(0, .ref a0), (1, .int x1), (2, .int x2)] → W p l e rm_X12_begin s m args below meth c H locs 0 0 (MQ below (CQ D none (w_X12_begin a0 q_depths q_far q_tune q_text q_books q_told q_years q_months q_ring q_woods q_ends q_wood q_sheets q_marsh q_oldest q_youngest q_knowns q_known q_weight q_chance q_digs q_draft q_isKept cA s_trace s_typed s_earliest s_latest s_firstYear s_rings s_depths o_far s_tune) A) args s 0 0 A) (F0 m 31 ls [.int z1, .ref q_far]) := by
  obtain ⟨hx, hb, hml, hown, hts, hr, hlocks, hX⟩ := C0
  have hK := hX.1
  have hN := hX.2
  intro x2 z1 s_far hf H locs hP hD hS ls hl
  unfold f_X12_begin_31 at hf
  refine lv_ldc (v := (1000000 : Int32)) hx hb hown (hts _ hw_X12_begin_c107) dX12_begin_31 ?_
  obtain ⟨g_1, hf⟩ := pgd_e hf
  refine va_iast hx hb hK hP hD hS 2 1 rfl rfl g_1 dX12_begin_33 (fun H locs hP hD hS => ?_)
  obtain ⟨f_2, ef_2⟩ : ∃ z : Nat → Int32, z = upd s_far z1.toNatClampNeg (1000000 : Int32) := ⟨_, rfl⟩
  have hf := plt_e ef_2 hf
  have hP : va_P D vwCl (w_X12_begin a0 q_depths q_far q_tune q_text q_books q_told q_years q_months q_ring q_woods q_ends q_wood q_sheets q_marsh q_oldest q_youngest q_knowns q_known q_weight q_chance q_digs q_draft q_isKept cA s_trace s_typed s_earliest s_latest s_firstYear s_rings s_depths f_2 s_tune) H := by rw [ef_2]; exact hP
  have hD : va_D A (w_X12_begin a0 q_depths q_far q_tune q_text q_books q_told q_years q_months q_ring q_woods q_ends q_wood q_sheets q_marsh q_oldest q_youngest q_knowns q_known q_weight q_chance q_digs q_draft q_isKept cA s_trace s_typed s_earliest s_latest s_firstYear s_rings s_depths f_2 s_tune) := by rw [ef_2]; exact hD
  obtain ⟨x2_3, ex2_3⟩ : ∃ z : Int32, z = x2 + (1 : Int32) := ⟨_, rfl⟩
  have hf := plt_e ex2_3 hf
  refine lv_iinc (v := x2_3) (lv' := [(2, .int x2_3), (0, .ref a0), (1, .int x1)]) hx hb dX12_begin_34 hl (k := 2) rfl (by rw [ex2_3]; rfl) (by decide) rfl (fun ls hl => ?_)
  refine lv_goto (tgt := 2) hx hb dX12_begin_37 (by decide) ?_
  exact hr2 x2_3 f_2 hf _ _ hP hD hS ls (lv_sub hl [1, 2, 0] rfl)

def f_X12_begin_2 (s_depths : Nat → Int32) (s_tune : Nat → Int32) (x1 : Int32) : Nat → (Int32) → (Nat → Int32) → Option ((Nat → Int32))
  | 0, _, _ => none
  | k + 1, x2, s_far =>
    pbr ((48 : Int32) ≤ x2)
      (pcl (f_X12_spread s_depths s_far s_tune) (fun far_2 => (
      some (far_2))))
      (pbr (x2 = x1)
        (pgd (pin x2 96) (
        pbr ((s_depths x2.toNatClampNeg) ≤ 0)
          (f_X12_begin_31 (f_X12_begin_2 s_depths s_tune x1 k) s_depths s_tune x1 x2 x2 s_far)
          (pgd (pin x2 48) (
          plt (upd s_far x2.toNatClampNeg (0 : Int32) : Nat → Int32) (fun f_8 => (
          plt (x2 + (1 : Int32) : Int32) (fun x2_9 => (
          (f_X12_begin_2 s_depths s_tune x1 k) x2_9 f_8))))))))
        (f_X12_begin_31 (f_X12_begin_2 s_depths s_tune x1 k) s_depths s_tune x1 x2 x2 s_far))

set_option maxRecDepth 100000 in
set_option maxHeartbeats 4000000 in
theorem k_X12_begin_2 {p : Program} {l : Launch} {e : Env} {s : State} {m : MethodId} {args : Array Value} {below : List Frame} {meth : Method} {c : Code} {A : Nat → Prop} {D : va_G} {cA : Nat → ClassId} (C0 : MX p s m args meth c cX12_begin 3 wsX12_begin RX12 none D cA) (hA : ∀ q, s.heap.size ≤ q → A q) {a0 : Nat} {q_depths : Nat} {q_far : Nat} {q_tune : Nat} {q_text : Nat} {q_books : Nat} {q_told : Nat} {q_years : Nat} {q_months : Nat} {q_ring : Nat} {q_woods : Nat} {q_ends : Nat} {q_wood : Nat} {q_sheets : Nat} {q_marsh : Nat} {q_oldest : Nat} {q_youngest : Nat} {q_knowns : Nat} {q_known : Nat} {q_weight : Nat} {q_chance : Nat} {q_digs : Nat} {q_draft : Nat} {q_isKept : Nat} {s_trace : Int64} {s_typed : Int32} {s_earliest : Int32} {s_latest : Int32} {s_firstYear : Int32} {s_rings : Int32} {s_depths : Nat → Int32} {s_tune : Nat → Int32} {x1 : Int32} {o_far : Nat → Int32} : ∀ (k : Nat) (x2 : Int32) (s_far : Nat → Int32), f_X12_begin_2 s_depths s_tune x1 k x2 s_far = some o_far → ∀ (H : Heap) (locs : List Loc), va_P D vwCl (w_X12_begin a0 q_depths q_far q_tune q_text q_books q_told q_years q_months q_ring q_woods q_ends q_wood q_sheets q_marsh q_oldest q_youngest q_knowns q_known q_weight q_chance q_digs q_draft q_isKept cA s_trace s_typed s_earliest s_latest s_firstYear s_rings s_depths s_far s_tune) H → va_D A (w_X12_begin a0 q_depths q_far q_tune q_text q_books q_told q_years q_months q_ring q_woods q_ends q_wood q_sheets q_marsh q_oldest q_youngest q_knowns q_known q_weight q_chance q_digs q_draft q_isKept cA s_trace s_typed s_earliest s_latest s_firstYear s_rings s_depths s_far s_tune) → va_S A s.heap H locs → ∀ ls : Array Slot, lv_has ls 3 [(0, .ref a0), (1, .int x1), (2, .int x2)] → W p l e rm_X12_begin s m args below meth c H locs 0 0 (MQ below (CQ D none (w_X12_begin a0 q_depths q_far q_tune q_text q_books q_told q_years q_months q_ring q_woods q_ends q_wood q_sheets q_marsh q_oldest q_youngest q_knowns q_known q_weight q_chance q_digs q_draft q_isKept cA s_trace s_typed s_earliest s_latest s_firstYear s_rings s_depths o_far s_tune) A) args s 0 0 A) (F0 m 2 ls []) := by
  obtain ⟨hx, hb, hml, hown, hts, hr, hlocks, hX⟩ := C0
  have hK := hX.1
  have hN := hX.2
  intro k
  induction k with
  | zero =>
    intro x2 s_far hf
    cases hf
  | succ k ih =>
    intro x2 s_far hf H locs hP hD hS ls hl
    rw [f_X12_begin_2] at hf
    refine lv_iload_n hx hb dX12_begin_2 rfl (lv_at hl 2 rfl) ?_
    refine lv_bipush (v := (48 : Int32)) hx hb dX12_begin_3 (by decide) ?_
    refine lv_icmp_ge (tgt := 40) hx hb dX12_begin_5 (by decide) (fun c_1 => ?_) (fun c_1 => ?_)
    · have hf := pbr_t c_1 hf
      refine lv_aload_n hx hb dX12_begin_40 rfl (lv_at hl 0 rfl) ?_
      obtain ⟨far_2, hc_3, hf⟩ := pcl_e hf
      refine m_callV2 (As := []) (rest := []) ⟨hx, hb, hml, hown, hts⟩ hX (ct_X12_spread l D cA a0 q_depths q_far q_tune q_text q_books q_told q_years q_months q_ring q_woods q_ends q_wood q_sheets q_marsh q_oldest q_youngest q_knowns q_known q_weight q_chance q_digs q_draft q_isKept s_trace s_typed s_earliest s_latest s_firstYear s_rings s_depths s_far s_tune far_2 hc_3) (cwV 0 hts gX12_begin_X12_spread rfl rfl rfl (by decide +kernel) ⟨Nat.le_of_ble_eq_true rfl, Nat.le_of_ble_eq_true rfl⟩) hP hD hS hA [0, 1, 2, 3] [] 4 (by decide) rfl rfl (WS' := (w_X12_begin a0 q_depths q_far q_tune q_text q_books q_told q_years q_months q_ring q_woods q_ends q_wood q_sheets q_marsh q_oldest q_youngest q_knowns q_known q_weight q_chance q_digs q_draft q_isKept cA s_trace s_typed s_earliest s_latest s_firstYear s_rings s_depths far_2 s_tune)) (WR := []) rfl rfl rfl rfl (by decide) (by decide) 0 12 rfl rfl rfl hl.1 rfl (st' := []) rfl (Nat.le_of_ble_eq_true rfl) ⟨Nat.zero_le _, Nat.zero_le _⟩ dX12_begin_41 (fun H locs hP hD hS => ?_)
      obtain rfl := pe1 hf
      exact m_vret hx hb hr hlocks hP hS dX12_begin_44
    have hf := pbr_f c_1 hf
    refine lv_aload_n hx hb dX12_begin_8 rfl (lv_at hl 0 rfl) ?_
    refine va_get (D := D) (ci := 12) (v := .ref q_far) (C := RX12) (T := TX12) (N := 29) hx hb hts hn_X12_begin_X12 hown hK hP 0 rfl rfl 5 (by decide) (hts _ hw_X12_begin_f20) (fun _ h9 => h9) rfl dX12_begin_9 ?_
    refine lv_iload_n hx hb dX12_begin_12 rfl (lv_at hl 2 rfl) ?_
    refine lv_iload_n hx hb dX12_begin_13 rfl (lv_at hl 2 rfl) ?_
    refine lv_iload_n hx hb dX12_begin_14 rfl (lv_at hl 1 rfl) ?_
    refine lv_icmp_ne (tgt := 31) hx hb dX12_begin_15 (by decide) (fun c_4 => ?_) (fun c_4 => ?_)
    · have hf := pbr_f c_4 hf
      exact k_X12_begin_31 ⟨hx, hb, hml, hown, hts, hr, hlocks, hX⟩ hA ih x2 x2 s_far hf _ _ hP hD hS ls (lv_sub hl [0, 1, 2] rfl)
    have hf := pbr_t c_4 hf
    refine lv_aload_n hx hb dX12_begin_18 rfl (lv_at hl 0 rfl) ?_
    refine va_get (D := D) (ci := 12) (v := .ref q_depths) (C := RX12) (T := TX12) (N := 29) hx hb hts hn_X12_begin_X12 hown hK hP 0 rfl rfl 3 (by decide) (hts _ hw_X12_begin_f13) (fun _ h9 => h9) rfl dX12_begin_19 ?_
    refine lv_iload_n hx hb dX12_begin_22 rfl (lv_at hl 2 rfl) ?_
    obtain ⟨g_5, hf⟩ := pgd_e hf
    refine va_iald hx hb hK hP 1 1 rfl rfl g_5 dX12_begin_23 ?_
    refine lv_if_le (tgt := 31) hx hb dX12_begin_24 (by decide) (fun c_6 => ?_) (fun c_6 => ?_)
    · have hf := pbr_t c_6 hf
      exact k_X12_begin_31 ⟨hx, hb, hml, hown, hts, hr, hlocks, hX⟩ hA ih x2 x2 s_far hf _ _ hP hD hS ls (lv_sub hl [0, 1, 2] rfl)
    have hf := pbr_f c_6 hf
    refine lv_iconst (v := (0 : Int32)) hx hb dX12_begin_27 (by decide) ?_
    refine lv_goto (tgt := 33) hx hb dX12_begin_28 (by decide) ?_
    obtain ⟨g_7, hf⟩ := pgd_e hf
    refine va_iast hx hb hK hP hD hS 2 1 rfl rfl g_7 dX12_begin_33 (fun H locs hP hD hS => ?_)
    obtain ⟨f_8, ef_8⟩ : ∃ z : Nat → Int32, z = upd s_far x2.toNatClampNeg (0 : Int32) := ⟨_, rfl⟩
    have hf := plt_e ef_8 hf
    have hP : va_P D vwCl (w_X12_begin a0 q_depths q_far q_tune q_text q_books q_told q_years q_months q_ring q_woods q_ends q_wood q_sheets q_marsh q_oldest q_youngest q_knowns q_known q_weight q_chance q_digs q_draft q_isKept cA s_trace s_typed s_earliest s_latest s_firstYear s_rings s_depths f_8 s_tune) H := by rw [ef_8]; exact hP
    have hD : va_D A (w_X12_begin a0 q_depths q_far q_tune q_text q_books q_told q_years q_months q_ring q_woods q_ends q_wood q_sheets q_marsh q_oldest q_youngest q_knowns q_known q_weight q_chance q_digs q_draft q_isKept cA s_trace s_typed s_earliest s_latest s_firstYear s_rings s_depths f_8 s_tune) := by rw [ef_8]; exact hD
    obtain ⟨x2_9, ex2_9⟩ : ∃ z : Int32, z = x2 + (1 : Int32) := ⟨_, rfl⟩
    have hf := plt_e ex2_9 hf
    refine lv_iinc (v := x2_9) (lv' := [(2, .int x2_9), (0, .ref a0), (1, .int x1)]) hx hb dX12_begin_34 hl (k := 2) rfl (by rw [ex2_9]; rfl) (by decide) rfl (fun ls hl => ?_)
    refine lv_goto (tgt := 2) hx hb dX12_begin_37 (by decide) ?_
    exact ih x2_9 f_8 hf _ _ hP hD hS ls (lv_sub hl [1, 2, 0] rfl)

def f_X12_begin (x1 : Int32) (s_depths : Nat → Int32) (s_far : Nat → Int32) (s_tune : Nat → Int32) : Option ((Nat → Int32)) :=
  f_X12_begin_2 s_depths s_tune x1 FU (0 : Int32) s_far

set_option maxRecDepth 100000 in
set_option maxHeartbeats 4000000 in
theorem ct_X12_begin (l : Launch) (D : va_G) (cA : Nat → ClassId) (x1 : Int32) (a0 : Nat) (q_depths : Nat) (q_far : Nat) (q_tune : Nat) (q_text : Nat) (q_books : Nat) (q_told : Nat) (q_years : Nat) (q_months : Nat) (q_ring : Nat) (q_woods : Nat) (q_ends : Nat) (q_wood : Nat) (q_sheets : Nat) (q_marsh : Nat) (q_oldest : Nat) (q_youngest : Nat) (q_knowns : Nat) (q_known : Nat) (q_weight : Nat) (q_chance : Nat) (q_digs : Nat) (q_draft : Nat) (q_isKept : Nat) (s_trace : Int64) (s_typed : Int32) (s_earliest : Int32) (s_latest : Int32) (s_firstYear : Int32) (s_rings : Int32) (s_depths : Nat → Int32) (s_far : Nat → Int32) (s_tune : Nat → Int32) (o_far : Nat → Int32) (hf : f_X12_begin x1 s_depths s_far s_tune = some o_far) : CT l yX12_begin wsX12_begin rm_X12_begin D cA [.ref a0, .int x1] (w_X12_begin a0 q_depths q_far q_tune q_text q_books q_told q_years q_months q_ring q_woods q_ends q_wood q_sheets q_marsh q_oldest q_youngest q_knowns q_known q_weight q_chance q_digs q_draft q_isKept cA s_trace s_typed s_earliest s_latest s_firstYear s_rings s_depths s_far s_tune) (w_X12_begin a0 q_depths q_far q_tune q_text q_books q_told q_years q_months q_ring q_woods q_ends q_wood q_sheets q_marsh q_oldest q_youngest q_knowns q_known q_weight q_chance q_digs q_draft q_isKept cA s_trace s_typed s_earliest s_latest s_firstYear s_rings s_depths o_far s_tune) none := by
  refine CT.ofW (cc := cX12_begin) (maxL := 3) (ret := none) (by decide +kernel) rfl (Nat.le_of_ble_eq_true rfl) ?_
  intro p e s m below meth c A C0 hA hP hD ls hl
  have C0 : MX p s m [.ref a0, .int x1].toArray meth c cX12_begin 3 wsX12_begin RX12 none D cA := C0
  have hl : lv_has ls 3 [(0, .ref a0), (1, .int x1)] := hl
  obtain ⟨hx, hb, hml, hown, hts, hr, hlocks, hX⟩ := id C0
  have hK := hX.1
  have hN := hX.2
  have hS : va_S A s.heap s.heap [] := va_S.rf
  unfold f_X12_begin at hf
  refine lv_iconst (v := (0 : Int32)) hx hb dX12_begin_0 (by decide) ?_
  refine lv_istore_n (lv' := [(2, .int (0 : Int32)), (0, .ref a0), (1, .int x1)]) hx hb dX12_begin_1 rfl hl (by decide) rfl (fun ls hl => ?_)
  exact k_X12_begin_2 C0 hA FU (0 : Int32) s_far hf _ _ hP hD hS ls (lv_sub hl [1, 2, 0] rfl)
