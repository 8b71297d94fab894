/-! ===== OrphanWaveModel.minutes(III)I ===== -/
abbrev rm_X12_minutes : Room := { frames := 3, cells := 0, slots := 0, locals := 63 }
abbrev w_X12_minutes (a0 : Nat) (q_depths : Nat) (q_far : Nat) (q_tune : Nat) (q_text : Nat) (q_books : Nat) (q_told : Nat) (q_years : Nat) (q_months : Nat) (q_ring : Nat) (q_woods : Nat) (q_ends : Nat) (q_wood : Nat) (q_sheets : Nat) (q_marsh : Nat) (q_oldest : Nat) (q_youngest : Nat) (q_knowns : Nat) (q_known : Nat) (q_weight : Nat) (q_chance : Nat) (q_digs : Nat) (q_draft : Nat) (q_isKept : Nat) (cA : Nat → ClassId) (s_trace : Int64) (s_typed : Int32) (s_earliest : Int32) (s_latest : Int32) (s_firstYear : Int32) (s_rings : Int32) (s_depths : Nat → Int32) (s_far : Nat → Int32) (s_tune : Nat → Int32) : va_W := [(a0, .inr (12, [.long s_trace, .ref q_text, .int s_typed, .ref q_depths, .ref q_tune, .ref q_far, .ref q_books, .ref q_told, .int s_earliest, .int s_latest, .ref q_years, .ref q_months, .int s_firstYear, .int s_rings, .ref q_ring, .ref q_woods, .ref q_ends, .ref q_wood, .ref q_sheets, .ref q_marsh, .ref q_oldest, .ref q_youngest, .ref q_knowns, .ref q_known, .ref q_weight, .ref q_chance, .ref q_digs, .ref q_draft, .ref q_isKept])), (q_depths, .inl (cA 1, 96, .inl s_depths)), (q_far, .inl (cA 1, 48, .inl s_far)), (q_tune, .inl (cA 1, 3, .inl s_tune))]
theorem hn_X12_minutes_X12 : ∀ w ∈ u_ws RX12 TX12 29, w ∈ wsX12_minutes := by decide +kernel
theorem hw_X12_minutes_c174 : Cond.constant RX12 174 (16777215) ∈ wsX12_minutes := by decide +kernel
theorem hw_X12_minutes_f20 : Cond.fieldLink RX12 20 "OrphanWaveModel" "far" "[I" ∈ wsX12_minutes := by decide +kernel
theorem hw_X12_minutes_c107 : Cond.constant RX12 107 (1000000) ∈ wsX12_minutes := by decide +kernel
theorem hw_X12_minutes_f13 : Cond.fieldLink RX12 13 "OrphanWaveModel" "depths" "[I" ∈ wsX12_minutes := by decide +kernel

def f_X12_minutes_93 (r33 : (Int32) → (Nat → Int32) → Option ((Int32) × (Nat → Int32))) (s_depths : Nat → Int32) (s_tune : Nat → Int32) (x1 : Int32) (x2 : Int32) (x3 : Int32) (x4 : Int32) (z1 : Int32) (s_far : Nat → Int32) : Option ((Int32) × (Nat → Int32)) :=
  pgd (pin z1 48) (
  plt (upd s_far z1.toNatClampNeg (1000000 : Int32) : Nat → Int32) (fun f_2 => (
  plt (x4 + (1 : Int32) : Int32) (fun x4_3 => (
  r33 x4_3 f_2)))))

set_option maxRecDepth 100000 in
set_option maxHeartbeats 4000000 in
theorem k_X12_minutes_93 {p : Program} {l : Launch} {e : Env} {s : State} {m : MethodId} {args : Array Value} {below : List Frame} {meth : Method} {c : Code} {A : Nat → Prop} {D : va_G} {cA : Nat → ClassId} (C0 : MX p s m args meth c cX12_minutes 6 wsX12_minutes RX12 (some .int) D cA) (hA : ∀ q, s.heap.size ≤ q → A q) {a0 : Nat} {q_depths : Nat} {q_far : Nat} {q_tune : Nat} {q_text : Nat} {q_books : Nat} {q_told : Nat} {q_years : Nat} {q_months : Nat} {q_ring : Nat} {q_woods : Nat} {q_ends : Nat} {q_wood : Nat} {q_sheets : Nat} {q_marsh : Nat} {q_oldest : Nat} {q_youngest : Nat} {q_knowns : Nat} {q_known : Nat} {q_weight : Nat} {q_chance : Nat} {q_digs : Nat} {q_draft : Nat} {q_isKept : Nat} {s_trace : Int64} {s_typed : Int32} {s_earliest : Int32} {s_latest : Int32} {s_firstYear : Int32} {s_rings : Int32} {s_depths : Nat → Int32} {s_tune : Nat → Int32} {x1 : Int32} {x2 : Int32} {x3 : Int32} {o_r : Int32} {o_far : Nat → Int32} {r33 : (Int32) → (Nat → Int32) → Option ((Int32) × (Nat → Int32))} (hr33 : ∀ (x4 : Int32) (s_far : Nat → Int32), r33 x4 s_far = some (o_r, o_far) → ∀ (H : Heap) (locs : List Loc), va_P D vwCl (w_X12_minutes a0 q_depths q_far q_tune q_text q_books q_told q_years q_months q_ring q_woods q_ends q_wood q_sheets q_marsh q_oldest q_youngest q_knowns q_known q_weight q_chance q_digs q_draft q_isKept cA s_trace s_typed s_earliest s_latest s_firstYear s_rings s_depths s_far s_tune) H → va_D A (w_X12_minutes a0 q_depths q_far q_tune q_text q_books q_told q_years q_months q_ring q_woods q_ends q_wood q_sheets q_marsh q_oldest q_youngest q_knowns q_known q_weight q_chance q_digs q_draft q_isKept cA s_trace s_typed s_earliest s_latest s_firstYear s_rings s_depths s_far s_tune) → va_S A s.heap H locs → ∀ ls : Array Slot, lv_has ls 6 [(0, .ref a0), (1, .int x1), (2, .int x2), (3, .int x3), (4, .int x4)] → W p l e rm_X12_minutes s m args below meth c H locs 0 0 (MQ below (CQ D (some (.int o_r)) (w_X12_minutes a0 q_depths q_far q_tune q_text q_books q_told q_years q_months q_ring q_woods q_ends q_wood q_sheets q_marsh q_oldest q_youngest q_knowns q_known q_weight q_chance q_digs q_draft q_isKept cA s_trace s_typed s_earliest s_latest s_firstYear s_rings s_depths o_far s_tune) A) args s 0 0 A) (F0 m 33 ls [])) : ∀ (x4 : Int32) (z1 : Int32) (s_far : Nat → Int32), f_X12_minutes_93 r33 s_depths s_tune x1 x2 x3 x4 z1 s_far = some (o_r, o_far) → ∀ (H : Heap) (locs : List Loc), va_P D vwCl (w_X12_minutes a0 q_depths q_far q_tune q_text q_books q_told q_years q_months q_ring q_woods q_ends q_wood q_sheets q_marsh q_oldest q_youngest q_knowns q_known q_weight q_chance q_digs q_draft q_isKept cA s_trace s_typed s_earliest s_latest s_firstYear s_rings s_depths s_far s_tune) H → va_D A (w_X12_minutes a0 q_depths q_far q_tune q_text q_books q_told q_years q_months q_ring q_woods q_ends q_wood q_sheets q_marsh q_oldest q_youngest q_knowns q_known q_weight q_chance q_digs q_draft q_isKept cA s_trace s_typed s_earliest s_latest s_firstYear s_rings s_depths s_far s_tune) → va_S A s.heap H locs → ∀ ls : Array Slot, lv_has ls 6 [(0, .ref a0), (1, .int x1), (2, .int x2), (3, .int x3), (4, .int x4)] → W p l e rm_X12_minutes s m args below meth c H locs 0 0 (MQ below (CQ D (some (.int o_r)) (w_X12_minutes a0 q_depths q_far q_tune q_text q_books q_told q_years q_months q_ring q_woods q_ends q_wood q_sheets q_marsh q_oldest q_youngest q_knowns q_known q_weight q_chance q_digs q_draft q_isKept cA s_trace s_typed s_earliest s_latest s_firstYear s_rings s_depths o_far s_tune) A) args s 0 0 A) (F0 m 93 ls [.int z1, .ref q_far]) := by
  obtain ⟨hx, hb, hml, hown, hts, hr, hlocks, hX⟩ := C0
  have hK := hX.1
  have hN := hX.2
  intro x4 z1 s_far hf H locs hP hD hS ls hl
  unfold f_X12_minutes_93 at hf
  refine lv_ldc (v := (1000000 : Int32)) hx hb hown (hts _ hw_X12_minutes_c107) dX12_minutes_93 ?_
  obtain ⟨g_1, hf⟩ := pgd_e hf
  refine va_iast hx hb hK hP hD hS 2 1 rfl rfl g_1 dX12_minutes_95 (fun H locs hP hD hS => ?_)
  obtain ⟨f_2, ef_2⟩ : ∃ z : Nat → Int32, z = upd s_far z1.toNatClampNeg (1000000 : Int32) := ⟨_, rfl⟩
  have hf := plt_e ef_2 hf
  have hP : va_P D vwCl (w_X12_minutes a0 q_depths q_far q_tune q_text q_books q_told q_years q_months q_ring q_woods q_ends q_wood q_sheets q_marsh q_oldest q_youngest q_knowns q_known q_weight q_chance q_digs q_draft q_isKept cA s_trace s_typed s_earliest s_latest s_firstYear s_rings s_depths f_2 s_tune) H := by rw [ef_2]; exact hP
  have hD : va_D A (w_X12_minutes a0 q_depths q_far q_tune q_text q_books q_told q_years q_months q_ring q_woods q_ends q_wood q_sheets q_marsh q_oldest q_youngest q_knowns q_known q_weight q_chance q_digs q_draft q_isKept cA s_trace s_typed s_earliest s_latest s_firstYear s_rings s_depths f_2 s_tune) := by rw [ef_2]; exact hD
  obtain ⟨x4_3, ex4_3⟩ : ∃ z : Int32, z = x4 + (1 : Int32) := ⟨_, rfl⟩
  have hf := plt_e ex4_3 hf
  refine lv_iinc (v := x4_3) (lv' := [(4, .int x4_3), (0, .ref a0), (1, .int x1), (2, .int x2), (3, .int x3)]) hx hb dX12_minutes_96 hl (k := 4) rfl (by rw [ex4_3]; rfl) (by decide) rfl (fun ls hl => ?_)
  refine lv_goto (tgt := 33) hx hb dX12_minutes_99 (by decide) ?_
  exact hr33 x4_3 f_2 hf _ _ hP hD hS ls (lv_sub hl [1, 2, 3, 4, 0] rfl)

def f_X12_minutes_65 (r33 : (Int32) → (Nat → Int32) → Option ((Int32) × (Nat → Int32))) (s_depths : Nat → Int32) (s_tune : Nat → Int32) (x1 : Int32) (x2 : Int32) (x3 : Int32) (x4 : Int32) (z0 : Int32) (s_far : Nat → Int32) : Option ((Int32) × (Nat → Int32)) :=
  pbr (z0 = (1 : Int32))
    (pgd (pin x4 96) (
    pbr ((s_depths x4.toNatClampNeg) ≤ 0)
      (f_X12_minutes_93 r33 s_depths s_tune x1 x2 x3 x4 x4 s_far)
      (pgd (pin x4 48) (
      plt (upd s_far x4.toNatClampNeg (0 : Int32) : Nat → Int32) (fun f_5 => (
      plt (x4 + (1 : Int32) : Int32) (fun x4_6 => (
      r33 x4_6 f_5))))))))
    (f_X12_minutes_93 r33 s_depths s_tune x1 x2 x3 x4 x4 s_far)

set_option maxRecDepth 100000 in
set_option maxHeartbeats 4000000 in
theorem k_X12_minutes_65 {p : Program} {l : Launch} {e : Env} {s : State} {m : MethodId} {args : Array Value} {below : List Frame} {meth : Method} {c : Code} {A : Nat → Prop} {D : va_G} {cA : Nat → ClassId} (C0 : MX p s m args meth c cX12_minutes 6 wsX12_minutes RX12 (some .int) D cA) (hA : ∀ q, s.heap.size ≤ q → A q) {a0 : Nat} {q_depths : Nat} {q_far : Nat} {q_tune : Nat} {q_text : Nat} {q_books : Nat} {q_told : Nat} {q_years : Nat} {q_months : Nat} {q_ring : Nat} {q_woods : Nat} {q_ends : Nat} {q_wood : Nat} {q_sheets : Nat} {q_marsh : Nat} {q_oldest : Nat} {q_youngest : Nat} {q_knowns : Nat} {q_known : Nat} {q_weight : Nat} {q_chance : Nat} {q_digs : Nat} {q_draft : Nat} {q_isKept : Nat} {s_trace : Int64} {s_typed : Int32} {s_earliest : Int32} {s_latest : Int32} {s_firstYear : Int32} {s_rings : Int32} {s_depths : Nat → Int32} {s_tune : Nat → Int32} {x1 : Int32} {x2 : Int32} {x3 : Int32} {o_r : Int32} {o_far : Nat → Int32} {r33 : (Int32) → (Nat → Int32) → Option ((Int32) × (Nat → Int32))} (hr33 : ∀ (x4 : Int32) (s_far : Nat → Int32), r33 x4 s_far = some (o_r, o_far) → ∀ (H : Heap) (locs : List Loc), va_P D vwCl (w_X12_minutes a0 q_depths q_far q_tune q_text q_books q_told q_years q_months q_ring q_woods q_ends q_wood q_sheets q_marsh q_oldest q_youngest q_knowns q_known q_weight q_chance q_digs q_draft q_isKept cA s_trace s_typed s_earliest s_latest s_firstYear s_rings s_depths s_far s_tune) H → va_D A (w_X12_minutes a0 q_depths q_far q_tune q_text q_books q_told q_years q_months q_ring q_woods q_ends q_wood q_sheets q_marsh q_oldest q_youngest q_knowns q_known q_weight q_chance q_digs q_draft q_isKept cA s_trace s_typed s_earliest s_latest s_firstYear s_rings s_depths s_far s_tune) → va_S A s.heap H locs → ∀ ls : Array Slot, lv_has ls 6 [(0, .ref a0), (1, .int x1), (2, .int x2), (3, .int x3), (4, .int x4)] → W p l e rm_X12_minutes s m args below meth c H locs 0 0 (MQ below (CQ D (some (.int o_r)) (w_X12_minutes a0 q_depths q_far q_tune q_text q_books q_told q_years q_months q_ring q_woods q_ends q_wood q_sheets q_marsh q_oldest q_youngest q_knowns q_known q_weight q_chance q_digs q_draft q_isKept cA s_trace s_typed s_earliest s_latest s_firstYear s_rings s_depths o_far s_tune) A) args s 0 0 A) (F0 m 33 ls [])) : ∀ (x4 : Int32) (z0 : Int32) (s_far : Nat → Int32), f_X12_minutes_65 r33 s_depths s_tune x1 x2 x3 x4 z0 s_far = some (o_r, o_far) → ∀ (H : Heap) (locs : List Loc), va_P D vwCl (w_X12_minutes a0 q_depths q_far q_tune q_text q_books q_told q_years q_months q_ring q_woods q_ends q_wood q_sheets q_marsh q_oldest q_youngest q_knowns q_known q_weight q_chance q_digs q_draft q_isKept cA s_trace s_typed s_earliest s_latest s_firstYear s_rings s_depths s_far s_tune) H → va_D A (w_X12_minutes a0 q_depths q_far q_tune q_text q_books q_told q_years q_months q_ring q_woods q_ends q_wood q_sheets q_marsh q_oldest q_youngest q_knowns q_known q_weight q_chance q_digs q_draft q_isKept cA s_trace s_typed s_earliest s_latest s_firstYear s_rings s_depths s_far s_tune) → va_S A s.heap H locs → ∀ ls : Array Slot, lv_has ls 6 [(0, .ref a0), (1, .int x1), (2, .int x2), (3, .int x3), (4, .int x4)] → W p l e rm_X12_minutes s m args below meth c H locs 0 0 (MQ below (CQ D (some (.int o_r)) (w_X12_minutes a0 q_depths q_far q_tune q_text q_books q_told q_years q_months q_ring q_woods q_ends q_wood q_sheets q_marsh q_oldest q_youngest q_knowns q_known q_weight q_chance q_digs q_draft q_isKept cA s_trace s_typed s_earliest s_latest s_firstYear s_rings s_depths o_far s_tune) A) args s 0 0 A) (F0 m 65 ls [.int z0]) := by
  obtain ⟨hx, hb, hml, hown, hts, hr, hlocks, hX⟩ := C0
  have hK := hX.1
  have hN := hX.2
  intro x4 z0 s_far hf H locs hP hD hS ls hl
  unfold f_X12_minutes_65 at hf
  refine lv_istore (lv' := [(5, .int z0), (0, .ref a0), (1, .int x1), (2, .int x2), (3, .int x3), (4, .int x4)]) hx hb dX12_minutes_65 hl (by decide) rfl (fun ls hl => ?_)
  refine lv_aload_n hx hb dX12_minutes_67 rfl (lv_at hl 1 rfl) ?_
  refine va_get (D := D) (ci := 12) (v := .ref q_far) (C := RX12) (T := TX12) (N := 29) hx hb hts hn_X12_minutes_X12 hown hK hP 0 rfl rfl 5 (by decide) (hts _ hw_X12_minutes_f20) (fun _ h9 => h9) rfl dX12_minutes_68 ?_
  refine lv_iload hx hb dX12_minutes_71 (lv_at hl 5 rfl) ?_
  refine lv_iload hx hb dX12_minutes_73 (lv_at hl 0 rfl) ?_
  refine lv_iconst (v := (1 : Int32)) hx hb dX12_minutes_75 (by decide) ?_
  refine lv_icmp_ne (tgt := 93) hx hb dX12_minutes_76 (by decide) (fun c_1 => ?_) (fun c_1 => ?_)
  · have hf := pbr_f c_1 hf
    exact k_X12_minutes_93 ⟨hx, hb, hml, hown, hts, hr, hlocks, hX⟩ hA hr33 x4 x4 s_far hf _ _ hP hD hS ls (lv_sub hl [1, 2, 3, 4, 5] rfl)
  have hf := pbr_t c_1 hf
  refine lv_aload_n hx hb dX12_minutes_79 rfl (lv_at hl 1 rfl) ?_
  refine va_get (D := D) (ci := 12) (v := .ref q_depths) (C := RX12) (T := TX12) (N := 29) hx hb hts hn_X12_minutes_X12 hown hK hP 0 rfl rfl 3 (by decide) (hts _ hw_X12_minutes_f13) (fun _ h9 => h9) rfl dX12_minutes_80 ?_
  refine lv_iload hx hb dX12_minutes_83 (lv_at hl 5 rfl) ?_
  obtain ⟨g_2, hf⟩ := pgd_e hf
  refine va_iald hx hb hK hP 1 1 rfl rfl g_2 dX12_minutes_85 ?_
  refine lv_if_le (tgt := 93) hx hb dX12_minutes_86 (by decide) (fun c_3 => ?_) (fun c_3 => ?_)
  · have hf := pbr_t c_3 hf
    exact k_X12_minutes_93 ⟨hx, hb, hml, hown, hts, hr, hlocks, hX⟩ hA hr33 x4 x4 s_far hf _ _ hP hD hS ls (lv_sub hl [1, 2, 3, 4, 5] rfl)
  have hf := pbr_f c_3 hf
  refine lv_iconst (v := (0 : Int32)) hx hb dX12_minutes_89 (by decide) ?_
  refine lv_goto (tgt := 95) hx hb dX12_minutes_90 (by decide) ?_
  obtain ⟨g_4, hf⟩ := pgd_e hf
  refine va_iast hx hb hK hP hD hS 2 1 rfl rfl g_4 dX12_minutes_95 (fun H locs hP hD hS => ?_)
  obtain ⟨f_5, ef_5⟩ : ∃ z : Nat → Int32, z = upd s_far x4.toNatClampNeg (0 : Int32) := ⟨_, rfl⟩
  have hf := plt_e ef_5 hf
  have hP : va_P D vwCl (w_X12_minutes a0 q_depths q_far q_tune q_text q_books q_told q_years q_months q_ring q_woods q_ends q_wood q_sheets q_marsh q_oldest q_youngest q_knowns q_known q_weight q_chance q_digs q_draft q_isKept cA s_trace s_typed s_earliest s_latest s_firstYear s_rings s_depths f_5 s_tune) H := by rw [ef_5]; exact hP
  have hD : va_D A (w_X12_minutes a0 q_depths q_far q_tune q_text q_books q_told q_years q_months q_ring q_woods q_ends q_wood q_sheets q_marsh q_oldest q_youngest q_knowns q_known q_weight q_chance q_digs q_draft q_isKept cA s_trace s_typed s_earliest s_latest s_firstYear s_rings s_depths f_5 s_tune) := by rw [ef_5]; exact hD
  obtain ⟨x4_6, ex4_6⟩ : ∃ z : Int32, z = x4 + (1 : Int32) := ⟨_, rfl⟩
  have hf := plt_e ex4_6 hf
  refine lv_iinc (v := x4_6) (lv' := [(4, .int x4_6), (5, .int z0), (0, .ref a0), (1, .int x1), (2, .int x2), (3, .int x3)]) hx hb dX12_minutes_96 hl (k := 5) rfl (by rw [ex4_6]; rfl) (by decide) rfl (fun ls hl => ?_)
  refine lv_goto (tgt := 33) hx hb dX12_minutes_99 (by decide) ?_
  exact hr33 x4_6 f_5 hf _ _ hP hD hS ls (lv_sub hl [2, 3, 4, 5, 0] rfl)

def f_X12_minutes_33 (s_depths : Nat → Int32) (s_tune : Nat → Int32) (x1 : Int32) (x2 : Int32) (x3 : Int32) : Nat → (Int32) → (Nat → Int32) → Option ((Int32) × (Nat → Int32))
  | 0, _, _ => none
  | k + 1, x4, s_far =>
    pbr ((48 : Int32) ≤ x4)
      (pcl (f_X12_spread s_depths s_far s_tune) (fun far_2 => (
      pgd (pin x1 48) (
      pbr ((far_2 x1.toNatClampNeg) = (1000000 : Int32))
        (some ((-9 : Int32), far_2))
        (some ((far_2 x1.toNatClampNeg), far_2))))))
      (pbr ((24 : Int32) ≤ x4)
        (f_X12_minutes_65 (f_X12_minutes_33 s_depths s_tune x1 x2 x3 k) s_depths s_tune x1 x2 x3 x4 ((x3 >>> ((x4 - (24 : Int32)) &&& 31)) &&& (1 : Int32)) s_far)
        (f_X12_minutes_65 (f_X12_minutes_33 s_depths s_tune x1 x2 x3 k) s_depths s_tune x1 x2 x3 x4 ((x2 >>> (x4 &&& 31)) &&& (1 : Int32)) s_far))

set_option maxRecDepth 100000 in
set_option maxHeartbeats 4000000 in
theorem k_X12_minutes_33 {p : Program} {l : Launch} {e : Env} {s : State} {m : MethodId} {args : Array Value} {below : List Frame} {meth : Method} {c : Code} {A : Nat → Prop} {D : va_G} {cA : Nat → ClassId} (C0 : MX p s m args meth c cX12_minutes 6 wsX12_minutes RX12 (some .int) D cA) (hA : ∀ q, s.heap.size ≤ q → A q) {a0 : Nat} {q_depths : Nat} {q_far : Nat} {q_tune : Nat} {q_text : Nat} {q_books : Nat} {q_told : Nat} {q_years : Nat} {q_months : Nat} {q_ring : Nat} {q_woods : Nat} {q_ends : Nat} {q_wood : Nat} {q_sheets : Nat} {q_marsh : Nat} {q_oldest : Nat} {q_youngest : Nat} {q_knowns : Nat} {q_known : Nat} {q_weight : Nat} {q_chance : Nat} {q_digs : Nat} {q_draft : Nat} {q_isKept : Nat} {s_trace : Int64} {s_typed : Int32} {s_earliest : Int32} {s_latest : Int32} {s_firstYear : Int32} {s_rings : Int32} {s_depths : Nat → Int32} {s_tune : Nat → Int32} {x1 : Int32} {x2 : Int32} {x3 : Int32} {o_r : Int32} {o_far : Nat → Int32} : ∀ (k : Nat) (x4 : Int32) (s_far : Nat → Int32), f_X12_minutes_33 s_depths s_tune x1 x2 x3 k x4 s_far = some (o_r, o_far) → ∀ (H : Heap) (locs : List Loc), va_P D vwCl (w_X12_minutes a0 q_depths q_far q_tune q_text q_books q_told q_years q_months q_ring q_woods q_ends q_wood q_sheets q_marsh q_oldest q_youngest q_knowns q_known q_weight q_chance q_digs q_draft q_isKept cA s_trace s_typed s_earliest s_latest s_firstYear s_rings s_depths s_far s_tune) H → va_D A (w_X12_minutes a0 q_depths q_far q_tune q_text q_books q_told q_years q_months q_ring q_woods q_ends q_wood q_sheets q_marsh q_oldest q_youngest q_knowns q_known q_weight q_chance q_digs q_draft q_isKept cA s_trace s_typed s_earliest s_latest s_firstYear s_rings s_depths s_far s_tune) → va_S A s.heap H locs → ∀ ls : Array Slot, lv_has ls 6 [(0, .ref a0), (1, .int x1), (2, .int x2), (3, .int x3), (4, .int x4)] → W p l e rm_X12_minutes s m args below meth c H locs 0 0 (MQ below (CQ D (some (.int o_r)) (w_X12_minutes a0 q_depths q_far q_tune q_text q_books q_told q_years q_months q_ring q_woods q_ends q_wood q_sheets q_marsh q_oldest q_youngest q_knowns q_known q_weight q_chance q_digs q_draft q_isKept cA s_trace s_typed s_earliest s_latest s_firstYear s_rings s_depths o_far s_tune) A) args s 0 0 A) (F0 m 33 ls []) := by
  obtain ⟨hx, hb, hml, hown, hts, hr, hlocks, hX⟩ := C0
  have hK := hX.1
  have hN := hX.2
  intro k
  induction k with
  | zero =>
    intro x4 s_far hf
    cases hf
  | succ k ih =>
    intro x4 s_far hf H locs hP hD hS ls hl
    rw [f_X12_minutes_33] at hf
    refine lv_iload hx hb dX12_minutes_33 (lv_at hl 4 rfl) ?_
    refine lv_bipush (v := (48 : Int32)) hx hb dX12_minutes_35 (by decide) ?_
    refine lv_icmp_ge (tgt := 102) hx hb dX12_minutes_37 (by decide) (fun c_1 => ?_) (fun c_1 => ?_)
    · have hf := pbr_t c_1 hf
      refine lv_aload_n hx hb dX12_minutes_102 rfl (lv_at hl 0 rfl) ?_
      obtain ⟨far_2, hc_3, hf⟩ := pcl_e hf
      refine m_callV2 (As := []) (rest := []) ⟨hx, hb, hml, hown, hts⟩ hX (ct_X12_spread l D cA a0 q_depths q_far q_tune q_text q_books q_told q_years q_months q_ring q_woods q_ends q_wood q_sheets q_marsh q_oldest q_youngest q_knowns q_known q_weight q_chance q_digs q_draft q_isKept s_trace s_typed s_earliest s_latest s_firstYear s_rings s_depths s_far s_tune far_2 hc_3) (cwV 0 hts gX12_minutes_X12_spread rfl rfl rfl (by decide +kernel) ⟨Nat.le_of_ble_eq_true rfl, Nat.le_of_ble_eq_true rfl⟩) hP hD hS hA [0, 1, 2, 3] [] 4 (by decide) rfl rfl (WS' := (w_X12_minutes a0 q_depths q_far q_tune q_text q_books q_told q_years q_months q_ring q_woods q_ends q_wood q_sheets q_marsh q_oldest q_youngest q_knowns q_known q_weight q_chance q_digs q_draft q_isKept cA s_trace s_typed s_earliest s_latest s_firstYear s_rings s_depths far_2 s_tune)) (WR := []) rfl rfl rfl rfl (by decide) (by decide) 0 12 rfl rfl rfl hl.1 rfl (st' := []) rfl (Nat.le_of_ble_eq_true rfl) ⟨Nat.zero_le _, Nat.zero_le _⟩ dX12_minutes_103 (fun H locs hP hD hS => ?_)
      refine lv_aload_n hx hb dX12_minutes_106 rfl (lv_at hl 0 rfl) ?_
      refine va_get (D := D) (ci := 12) (v := .ref q_far) (C := RX12) (T := TX12) (N := 29) hx hb hts hn_X12_minutes_X12 hown hK hP 0 rfl rfl 5 (by decide) (hts _ hw_X12_minutes_f20) (fun _ h9 => h9) rfl dX12_minutes_107 ?_
      refine lv_iload_n hx hb dX12_minutes_110 rfl (lv_at hl 1 rfl) ?_
      obtain ⟨g_4, hf⟩ := pgd_e hf
      refine va_iald hx hb hK hP 2 1 rfl rfl g_4 dX12_minutes_111 ?_
      refine lv_ldc (v := (1000000 : Int32)) hx hb hown (hts _ hw_X12_minutes_c107) dX12_minutes_112 ?_
      refine lv_icmp_ne (tgt := 122) hx hb dX12_minutes_114 (by decide) (fun c_5 => ?_) (fun c_5 => ?_)
      · have hf := pbr_f c_5 hf
        refine lv_aload_n hx hb dX12_minutes_122 rfl (lv_at hl 0 rfl) ?_
        refine va_get (D := D) (ci := 12) (v := .ref q_far) (C := RX12) (T := TX12) (N := 29) hx hb hts hn_X12_minutes_X12 hown hK hP 0 rfl rfl 5 (by decide) (hts _ hw_X12_minutes_f20) (fun _ h9 => h9) rfl dX12_minutes_123 ?_
        refine lv_iload_n hx hb dX12_minutes_126 rfl (lv_at hl 1 rfl) ?_
        refine va_iald hx hb hK hP 2 1 rfl rfl g_4 dX12_minutes_127 ?_
        obtain ⟨rfl, rfl⟩ := pe2 hf
        exact m_iret hx hb hr hlocks hP hS dX12_minutes_128
      have hf := pbr_t c_5 hf
      refine lv_bipush (v := (-9 : Int32)) hx hb dX12_minutes_117 (by decide) ?_
      refine lv_goto (tgt := 128) hx hb dX12_minutes_119 (by decide) ?_
      obtain ⟨rfl, rfl⟩ := pe2 hf
      exact m_iret hx hb hr hlocks hP hS dX12_minutes_128
    have hf := pbr_f c_1 hf
    refine lv_iload hx hb dX12_minutes_40 (lv_at hl 4 rfl) ?_
    refine lv_bipush (v := (24 : Int32)) hx hb dX12_minutes_42 (by decide) ?_
    refine lv_icmp_ge (tgt := 56) hx hb dX12_minutes_44 (by decide) (fun c_6 => ?_) (fun c_6 => ?_)
    · have hf := pbr_t c_6 hf
      refine lv_iload_n hx hb dX12_minutes_56 rfl (lv_at hl 3 rfl) ?_
      refine lv_iload hx hb dX12_minutes_57 (lv_at hl 4 rfl) ?_
      refine lv_bipush (v := (24 : Int32)) hx hb dX12_minutes_59 (by decide) ?_
      refine lv_isub hx hb dX12_minutes_61 ?_
      refine lv_ishr hx hb dX12_minutes_62 ?_
      refine lv_iconst (v := (1 : Int32)) hx hb dX12_minutes_63 (by decide) ?_
      refine lv_iand hx hb dX12_minutes_64 ?_
      exact k_X12_minutes_65 ⟨hx, hb, hml, hown, hts, hr, hlocks, hX⟩ hA ih x4 ((x3 >>> ((x4 - (24 : Int32)) &&& 31)) &&& (1 : Int32)) s_far hf _ _ hP hD hS ls (lv_sub hl [0, 1, 2, 3, 4] rfl)
    have hf := pbr_f c_6 hf
    refine lv_iload_n hx hb dX12_minutes_47 rfl (lv_at hl 2 rfl) ?_
    refine lv_iload hx hb dX12_minutes_48 (lv_at hl 4 rfl) ?_
    refine lv_ishr hx hb dX12_minutes_50 ?_
    refine lv_iconst (v := (1 : Int32)) hx hb dX12_minutes_51 (by decide) ?_
    refine lv_iand hx hb dX12_minutes_52 ?_
    refine lv_goto (tgt := 65) hx hb dX12_minutes_53 (by decide) ?_
    exact k_X12_minutes_65 ⟨hx, hb, hml, hown, hts, hr, hlocks, hX⟩ hA ih x4 ((x2 >>> (x4 &&& 31)) &&& (1 : Int32)) s_far hf _ _ hP hD hS ls (lv_sub hl [0, 1, 2, 3, 4] rfl)

def f_X12_minutes (x1 : Int32) (x2 : Int32) (x3 : Int32) (s_depths : Nat → Int32) (s_far : Nat → Int32) (s_tune : Nat → Int32) : Option ((Int32) × (Nat → Int32)) :=
  pcl (f_X12_isSea x1 s_depths) (fun r_1 => (
  pbr (r_1 = 0)
    (some ((-1 : Int32), s_far))
    (pcl (f_X12_in x2 (0 : Int32) (16777215 : Int32)) (fun r_4 => (
    pbr (r_4 = 0)
      (some ((-1 : Int32), s_far))
      (pcl (f_X12_in x3 (0 : Int32) (16777215 : Int32)) (fun r_7 => (
      pbr (r_7 = 0)
        (some ((-1 : Int32), s_far))
        (f_X12_minutes_33 s_depths s_tune x1 x2 x3 FU (0 : Int32) s_far)))))))))

set_option maxRecDepth 100000 in
set_option maxHeartbeats 4000000 in
theorem ct_X12_minutes (l : Launch) (D : va_G) (cA : Nat → ClassId) (x1 : Int32) (x2 : Int32) (x3 : Int32) (a0 : Nat) (q_depths : Nat) (q_far : Nat) (q_tune : Nat) (q_text : Nat) (q_books : Nat) (q_told : Nat) (q_years : Nat) (q_months : Nat) (q_ring : Nat) (q_woods : Nat) (q_ends : Nat) (q_wood : Nat) (q_sheets : Nat) (q_marsh : Nat) (q_oldest : Nat) (q_youngest : Nat) (q_knowns : Nat) (q_known : Nat) (q_weight : Nat) (q_chance : Nat) (q_digs : Nat) (q_draft : Nat) (q_isKept : Nat) (s_trace : Int64) (s_typed : Int32) (s_earliest : Int32) (s_latest : Int32) (s_firstYear : Int32) (s_rings : Int32) (s_depths : Nat → Int32) (s_far : Nat → Int32) (s_tune : Nat → Int32) (o_r : Int32) (o_far : Nat → Int32) (hf : f_X12_minutes x1 x2 x3 s_depths s_far s_tune = some (o_r, o_far)) : CT l yX12_minutes wsX12_minutes rm_X12_minutes D cA [.ref a0, .int x1, .int x2, .int x3] (w_X12_minutes a0 q_depths q_far q_tune q_text q_books q_told q_years q_months q_ring q_woods q_ends q_wood q_sheets q_marsh q_oldest q_youngest q_knowns q_known q_weight q_chance q_digs q_draft q_isKept cA s_trace s_typed s_earliest s_latest s_firstYear s_rings s_depths s_far s_tune) (w_X12_minutes a0 q_depths q_far q_tune q_text q_books q_told q_years q_months q_ring q_woods q_ends q_wood q_sheets q_marsh q_oldest q_youngest q_knowns q_known q_weight q_chance q_digs q_draft q_isKept cA s_trace s_typed s_earliest s_latest s_firstYear s_rings s_depths o_far s_tune) (some (.int o_r)) := by
  refine CT.ofW (cc := cX12_minutes) (maxL := 6) (ret := (some .int)) (by decide +kernel) rfl (Nat.le_of_ble_eq_true rfl) ?_
  intro p e s m below meth c A C0 hA hP hD ls hl
  have C0 : MX p s m [.ref a0, .int x1, .int x2, .int x3].toArray meth c cX12_minutes 6 wsX12_minutes RX12 (some .int) D cA := C0
  have hl : lv_has ls 6 [(0, .ref a0), (1, .int x1), (2, .int x2), (3, .int x3)] := hl
  obtain ⟨hx, hb, hml, hown, hts, hr, hlocks, hX⟩ := id C0
  have hK := hX.1
  have hN := hX.2
  have hS : va_S A s.heap s.heap [] := va_S.rf
  unfold f_X12_minutes at hf
  refine lv_aload_n hx hb dX12_minutes_0 rfl (lv_at hl 0 rfl) ?_
  refine lv_iload_n hx hb dX12_minutes_1 rfl (lv_at hl 1 rfl) ?_
  obtain ⟨r_1, hc_2, hf⟩ := pcl_e hf
  refine m_callV2 (As := [.int x1]) (rest := []) ⟨hx, hb, hml, hown, hts⟩ hX (ct_X12_isSea l D cA x1 a0 q_depths q_text q_tune q_far q_books q_told q_years q_months q_ring q_woods q_ends q_wood q_sheets q_marsh q_oldest q_youngest q_knowns q_known q_weight q_chance q_digs q_draft q_isKept s_trace s_typed s_earliest s_latest s_firstYear s_rings s_depths r_1 hc_2) (cwV 1 hts gX12_minutes_X12_isSea rfl rfl rfl (by decide +kernel) ⟨Nat.le_of_ble_eq_true rfl, Nat.le_of_ble_eq_true rfl⟩) hP hD hS hA [0, 1] [2, 3] 4 (by decide) rfl rfl (WS' := (w_X12_minutes a0 q_depths q_far q_tune q_text q_books q_told q_years q_months q_ring q_woods q_ends q_wood q_sheets q_marsh q_oldest q_youngest q_knowns q_known q_weight q_chance q_digs q_draft q_isKept cA s_trace s_typed s_earliest s_latest s_firstYear s_rings s_depths s_far s_tune)) (WR := [(q_far, .inl (cA 1, 48, .inl s_far)), (q_tune, .inl (cA 1, 3, .inl s_tune))]) rfl rfl rfl rfl (by decide) (by decide) 0 12 rfl rfl rfl hl.1 rfl (st' := [.int r_1]) rfl (Nat.le_of_ble_eq_true rfl) ⟨Nat.zero_le _, Nat.zero_le _⟩ dX12_minutes_2 (fun H locs hP hD hS => ?_)
  refine lv_if_eq (tgt := 28) hx hb dX12_minutes_5 (by decide) (fun c_3 => ?_) (fun c_3 => ?_)
  · have hf := pbr_t c_3 hf
    refine lv_iconst (v := (-1 : Int32)) hx hb dX12_minutes_28 (by decide) ?_
    obtain ⟨rfl, rfl⟩ := pe2 hf
    exact m_iret hx hb hr hlocks hP hS dX12_minutes_29
  have hf := pbr_f c_3 hf
  refine lv_iload_n hx hb dX12_minutes_8 rfl (lv_at hl 2 rfl) ?_
  refine lv_iconst (v := (0 : Int32)) hx hb dX12_minutes_9 (by decide) ?_
  refine lv_ldc (v := (16777215 : Int32)) hx hb hown (hts _ hw_X12_minutes_c174) dX12_minutes_10 ?_
  obtain ⟨r_4, hc_5, hf⟩ := pcl_e hf
  refine m_callS2 (As := [.int x2, .int (0 : Int32), .int (16777215 : Int32)]) (rest := []) ⟨hx, hb, hml, hown, hts⟩ hX (ct_X12_in l D cA x2 (0 : Int32) (16777215 : Int32) r_4 hc_5) (va_cwS 3 hts gX12_minutes_X12_in rfl rfl rfl (by decide +kernel) ⟨Nat.le_of_ble_eq_true rfl, Nat.le_of_ble_eq_true rfl⟩) hP hD hS hA [] [0, 1, 2, 3] 4 (by decide) rfl rfl (WS' := (w_X12_minutes a0 q_depths q_far q_tune q_text q_books q_told q_years q_months q_ring q_woods q_ends q_wood q_sheets q_marsh q_oldest q_youngest q_knowns q_known q_weight q_chance q_digs q_draft q_isKept cA s_trace s_typed s_earliest s_latest s_firstYear s_rings s_depths s_far s_tune)) (WR := [(a0, .inr (12, [.long s_trace, .ref q_text, .int s_typed, .ref q_depths, .ref q_tune, .ref q_far, .ref q_books, .ref q_told, .int s_earliest, .int s_latest, .ref q_years, .ref q_months, .int s_firstYear, .int s_rings, .ref q_ring, .ref q_woods, .ref q_ends, .ref q_wood, .ref q_sheets, .ref q_marsh, .ref q_oldest, .ref q_youngest, .ref q_knowns, .ref q_known, .ref q_weight, .ref q_chance, .ref q_digs, .ref q_draft, .ref q_isKept])), (q_depths, .inl (cA 1, 96, .inl s_depths)), (q_far, .inl (cA 1, 48, .inl s_far)), (q_tune, .inl (cA 1, 3, .inl s_tune))]) rfl rfl rfl rfl (by decide) (by decide) rfl hl.1 rfl (st' := [.int r_4]) rfl (Nat.le_of_ble_eq_true rfl) ⟨Nat.zero_le _, Nat.zero_le _⟩ dX12_minutes_12 (fun H locs hP hD hS => ?_)
  refine lv_if_eq (tgt := 28) hx hb dX12_minutes_15 (by decide) (fun c_6 => ?_) (fun c_6 => ?_)
  · have hf := pbr_t c_6 hf
    refine lv_iconst (v := (-1 : Int32)) hx hb dX12_minutes_28 (by decide) ?_
    obtain ⟨rfl, rfl⟩ := pe2 hf
    exact m_iret hx hb hr hlocks hP hS dX12_minutes_29
  have hf := pbr_f c_6 hf
  refine lv_iload_n hx hb dX12_minutes_18 rfl (lv_at hl 3 rfl) ?_
  refine lv_iconst (v := (0 : Int32)) hx hb dX12_minutes_19 (by decide) ?_
  refine lv_ldc (v := (16777215 : Int32)) hx hb hown (hts _ hw_X12_minutes_c174) dX12_minutes_20 ?_
  obtain ⟨r_7, hc_8, hf⟩ := pcl_e hf
  refine m_callS2 (As := [.int x3, .int (0 : Int32), .int (16777215 : Int32)]) (rest := []) ⟨hx, hb, hml, hown, hts⟩ hX (ct_X12_in l D cA x3 (0 : Int32) (16777215 : Int32) r_7 hc_8) (va_cwS 3 hts gX12_minutes_X12_in rfl rfl rfl (by decide +kernel) ⟨Nat.le_of_ble_eq_true rfl, Nat.le_of_ble_eq_true rfl⟩) hP hD hS hA [] [0, 1, 2, 3] 4 (by decide) rfl rfl (WS' := (w_X12_minutes a0 q_depths q_far q_tune q_text q_books q_told q_years q_months q_ring q_woods q_ends q_wood q_sheets q_marsh q_oldest q_youngest q_knowns q_known q_weight q_chance q_digs q_draft q_isKept cA s_trace s_typed s_earliest s_latest s_firstYear s_rings s_depths s_far s_tune)) (WR := [(a0, .inr (12, [.long s_trace, .ref q_text, .int s_typed, .ref q_depths, .ref q_tune, .ref q_far, .ref q_books, .ref q_told, .int s_earliest, .int s_latest, .ref q_years, .ref q_months, .int s_firstYear, .int s_rings, .ref q_ring, .ref q_woods, .ref q_ends, .ref q_wood, .ref q_sheets, .ref q_marsh, .ref q_oldest, .ref q_youngest, .ref q_knowns, .ref q_known, .ref q_weight, .ref q_chance, .ref q_digs, .ref q_draft, .ref q_isKept])), (q_depths, .inl (cA 1, 96, .inl s_depths)), (q_far, .inl (cA 1, 48, .inl s_far)), (q_tune, .inl (cA 1, 3, .inl s_tune))]) rfl rfl rfl rfl (by decide) (by decide) rfl hl.1 rfl (st' := [.int r_7]) rfl (Nat.le_of_ble_eq_true rfl) ⟨Nat.zero_le _, Nat.zero_le _⟩ dX12_minutes_22 (fun H locs hP hD hS => ?_)
  refine lv_if_ne (tgt := 30) hx hb dX12_minutes_25 (by decide) (fun c_9 => ?_) (fun c_9 => ?_)
  · have hf := pbr_f c_9 hf
    refine lv_iconst (v := (0 : Int32)) hx hb dX12_minutes_30 (by decide) ?_
    refine lv_istore (lv' := [(4, .int (0 : Int32)), (0, .ref a0), (1, .int x1), (2, .int x2), (3, .int x3)]) hx hb dX12_minutes_31 hl (by decide) rfl (fun ls hl => ?_)
    exact k_X12_minutes_33 C0 hA FU (0 : Int32) s_far hf _ _ hP hD hS ls (lv_sub hl [1, 2, 3, 4, 0] rfl)
  have hf := pbr_t c_9 hf
  refine lv_iconst (v := (-1 : Int32)) hx hb dX12_minutes_28 (by decide) ?_
  obtain ⟨rfl, rfl⟩ := pe2 hf
  exact m_iret hx hb hr hlocks hP hS dX12_minutes_29

/-! ===== OrphanWaveModel.trust(II)I ===== -/
abbrev rm_X12_trust : Room := { frames := 1, cells := 0, slots := 0, locals := 22 }
abbrev w_X12_trust (a0 : Nat) (q_sheets : Nat) (q_marsh : Nat) (q_books : Nat) (q_youngest : Nat) (q_oldest : Nat) (q_text : Nat) (q_depths : Nat) (q_tune : Nat) (q_far : Nat) (q_told : Nat) (q_years : Nat) (q_months : Nat) (q_ring : Nat) (q_woods : Nat) (q_ends : Nat) (q_wood : Nat) (q_knowns : Nat) (q_known : Nat) (q_weight : Nat) (q_chance : Nat) (q_digs : Nat) (q_draft : Nat) (q_isKept : Nat) (cA : Nat → ClassId) (s_trace : Int64) (s_typed : Int32) (s_earliest : Int32) (s_latest : Int32) (s_firstYear : Int32) (s_rings : Int32) (s_sheets : Nat → Int32) (s_marsh : Nat → Int32) (s_books : Nat → Int32) (s_youngest : Nat → Int32) (s_oldest : Nat → Int32) : va_W := [(a0, .inr (12, [.long s_trace, .ref q_text, .int s_typed, .ref q_depths, .ref q_tune, .ref q_far, .ref q_books, .ref q_told, .int s_earliest, .int s_latest, .ref q_years, .ref q_months, .int s_firstYear, .int s_rings, .ref q_ring, .ref q_woods, .ref q_ends, .ref q_wood, .ref q_sheets, .ref q_marsh, .ref q_oldest, .ref q_youngest, .ref q_knowns, .ref q_known, .ref q_weight, .ref q_chance, .ref q_digs, .ref q_draft, .ref q_isKept])), (q_sheets, .inl (cA 1, 3, .inl s_sheets)), (q_marsh, .inl (cA 1, 36, .inl s_marsh)), (q_books, .inl (cA 1, 3, .inl s_books)), (q_youngest, .inl (cA 1, 36, .inl s_youngest)), (q_oldest, .inl (cA 1, 36, .inl s_oldest))]
theorem hn_X12_trust_X12 : ∀ w ∈ u_ws RX12 TX12 29, w ∈ wsX12_trust := by decide +kernel
theorem hw_X12_trust_c122 : Cond.constant RX12 122 (-1000000) ∈ wsX12_trust := by decide +kernel
theorem hw_X12_trust_f47 : Cond.fieldLink RX12 47 "OrphanWaveModel" "sheets" "[I" ∈ wsX12_trust := by decide +kernel
theorem hw_X12_trust_f50 : Cond.fieldLink RX12 50 "OrphanWaveModel" "marsh" "[I" ∈ wsX12_trust := by decide +kernel
theorem hw_X12_trust_f175 : Cond.fieldLink RX12 175 "OrphanWaveModel" "trace" "J" ∈ wsX12_trust := by decide +kernel
theorem hw_X12_trust_c179 : Cond.constantLong RX12 179 (11) ∈ wsX12_trust := by decide +kernel
theorem hw_X12_trust_c181 : Cond.constantLong RX12 181 (101) ∈ wsX12_trust := by decide +kernel
theorem hw_X12_trust_f23 : Cond.fieldLink RX12 23 "OrphanWaveModel" "books" "[I" ∈ wsX12_trust := by decide +kernel
theorem hw_X12_trust_c183 : Cond.constantLong RX12 183 (1011) ∈ wsX12_trust := by decide +kernel
theorem hw_X12_trust_c185 : Cond.constantLong RX12 185 (10101) ∈ wsX12_trust := by decide +kernel
theorem hw_X12_trust_c187 : Cond.constantLong RX12 187 (100001) ∈ wsX12_trust := by decide +kernel
theorem hw_X12_trust_f56 : Cond.fieldLink RX12 56 "OrphanWaveModel" "youngest" "[I" ∈ wsX12_trust := by decide +kernel
theorem hw_X12_trust_f53 : Cond.fieldLink RX12 53 "OrphanWaveModel" "oldest" "[I" ∈ wsX12_trust := by decide +kernel

def f_X12_trust_96 (r46 : (Int32) → (Int32) → (Int32) → (Int32) → (Int64) → Option ((Int32) × (Int64))) (s_sheets : Nat → Int32) (s_marsh : Nat → Int32) (s_books : Nat → Int32) (s_youngest : Nat → Int32) (s_oldest : Nat → Int32) (x1 : Int32) (x2 : Int32) (x3 : Int32) (x5 : Int32) (x6 : Int32) (z0 : Int32) (z1 : Int32) (s_trace : Int64) : Option ((Int32) × (Int64)) :=
  plt ((z0 + z1) : Int32) (fun x4_1 => (
  pgd (pin x6 36) (
  plt ((x5 ||| ((1 : Int32) <<< ((s_marsh x6.toNatClampNeg) &&& 31))) : Int32) (fun x5_3 => (
  plt (x6 + (1 : Int32) : Int32) (fun x6_4 => (
  r46 x3 x4_1 x5_3 x6_4 s_trace)))))))

set_option maxRecDepth 100000 in
set_option maxHeartbeats 4000000 in
theorem k_X12_trust_96 {p : Program} {l : Launch} {e : Env} {s : State} {m : MethodId} {args : Array Value} {below : List Frame} {meth : Method} {c : Code} {A : Nat → Prop} {D : va_G} {cA : Nat → ClassId} (C0 : MX p s m args meth c cX12_trust 7 wsX12_trust RX12 (some .int) D cA) (hA : ∀ q, s.heap.size ≤ q → A q) {a0 : Nat} {q_sheets : Nat} {q_marsh : Nat} {q_books : Nat} {q_youngest : Nat} {q_oldest : Nat} {q_text : Nat} {q_depths : Nat} {q_tune : Nat} {q_far : Nat} {q_told : Nat} {q_years : Nat} {q_months : Nat} {q_ring : Nat} {q_woods : Nat} {q_ends : Nat} {q_wood : Nat} {q_knowns : Nat} {q_known : Nat} {q_weight : Nat} {q_chance : Nat} {q_digs : Nat} {q_draft : Nat} {q_isKept : Nat} {s_typed : Int32} {s_earliest : Int32} {s_latest : Int32} {s_firstYear : Int32} {s_rings : Int32} {s_sheets : Nat → Int32} {s_marsh : Nat → Int32} {s_books : Nat → Int32} {s_youngest : Nat → Int32} {s_oldest : Nat → Int32} {x1 : Int32} {x2 : Int32} {o_r : Int32} {o_trace : Int64} {r46 : (Int32) → (Int32) → (Int32) → (Int32) → (Int64) → Option ((Int32) × (Int64))} (hr46 : ∀ (x3 : Int32) (x4 : Int32) (x5 : Int32) (x6 : Int32) (s_trace : Int64), r46 x3 x4 x5 x6 s_trace = some (o_r, o_trace) → ∀ (H : Heap) (locs : List Loc), va_P D vwCl (w_X12_trust a0 q_sheets q_marsh q_books q_youngest q_oldest q_text q_depths q_tune q_far q_told q_years q_months q_ring q_woods q_ends q_wood q_knowns q_known q_weight q_chance q_digs q_draft q_isKept cA s_trace s_typed s_earliest s_latest s_firstYear s_rings s_sheets s_marsh s_books s_youngest s_oldest) H → va_D A (w_X12_trust a0 q_sheets q_marsh q_books q_youngest q_oldest q_text q_depths q_tune q_far q_told q_years q_months q_ring q_woods q_ends q_wood q_knowns q_known q_weight q_chance q_digs q_draft q_isKept cA s_trace s_typed s_earliest s_latest s_firstYear s_rings s_sheets s_marsh s_books s_youngest s_oldest) → va_S A s.heap H locs → ∀ ls : Array Slot, lv_has ls 7 [(0, .ref a0), (1, .int x1), (2, .int x2), (3, .int x3), (4, .int x4), (5, .int x5), (6, .int x6)] → W p l e rm_X12_trust s m args below meth c H locs 0 0 (MQ below (CQ D (some (.int o_r)) (w_X12_trust a0 q_sheets q_marsh q_books q_youngest q_oldest q_text q_depths q_tune q_far q_told q_years q_months q_ring q_woods q_ends q_wood q_knowns q_known q_weight q_chance q_digs q_draft q_isKept cA o_trace s_typed s_earliest s_latest s_firstYear s_rings s_sheets s_marsh s_books s_youngest s_oldest) A) args s 0 0 A) (F0 m 46 ls [])) : ∀ (x3 : Int32) (x5 : Int32) (x6 : Int32) (z0 : Int32) (z1 : Int32) (s_trace : Int64), f_X12_trust_96 r46 s_sheets s_marsh s_books s_youngest s_oldest x1 x2 x3 x5 x6 z0 z1 s_trace = some (o_r, o_trace) → ∀ (H : Heap) (locs : List Loc), va_P D vwCl (w_X12_trust a0 q_sheets q_marsh q_books q_youngest q_oldest q_text q_depths q_tune q_far q_told q_years q_months q_ring q_woods q_ends q_wood q_knowns q_known q_weight q_chance q_digs q_draft q_isKept cA s_trace s_typed s_earliest s_latest s_firstYear s_rings s_sheets s_marsh s_books s_youngest s_oldest) H → va_D A (w_X12_trust a0 q_sheets q_marsh q_books q_youngest q_oldest q_text q_depths q_tune q_far q_told q_years q_months q_ring q_woods q_ends q_wood q_knowns q_known q_weight q_chance q_digs q_draft q_isKept cA s_trace s_typed s_earliest s_latest s_firstYear s_rings s_sheets s_marsh s_books s_youngest s_oldest) → va_S A s.heap H locs → ∀ ls : Array Slot, lv_has ls 7 [(0, .ref a0), (1, .int x1), (2, .int x2), (3, .int x3), (5, .int x5), (6, .int x6)] → W p l e rm_X12_trust s m args below meth c H locs 0 0 (MQ below (CQ D (some (.int o_r)) (w_X12_trust a0 q_sheets q_marsh q_books q_youngest q_oldest q_text q_depths q_tune q_far q_told q_years q_months q_ring q_woods q_ends q_wood q_knowns q_known q_weight q_chance q_digs q_draft q_isKept cA o_trace s_typed s_earliest s_latest s_firstYear s_rings s_sheets s_marsh s_books s_youngest s_oldest) A) args s 0 0 A) (F0 m 96 ls [.int z1, .int z0]) := by
  obtain ⟨hx, hb, hml, hown, hts, hr, hlocks, hX⟩ := C0
  have hK := hX.1
  have hN := hX.2
  intro x3 x5 x6 z0 z1 s_trace hf H locs hP hD hS ls hl
  unfold f_X12_trust_96 at hf
  refine lv_iadd hx hb dX12_trust_96 ?_
  refine lv_topi (fun x4_1 ex4_1 => ?_)
  have hf := plt_e ex4_1 hf
  refine lv_istore (lv' := [(4, .int x4_1), (0, .ref a0), (1, .int x1), (2, .int x2), (3, .int x3), (5, .int x5), (6, .int x6)]) hx hb dX12_trust_97 hl (by decide) rfl (fun ls hl => ?_)
  refine lv_iload hx hb dX12_trust_99 (lv_at hl 5 rfl) ?_
  refine lv_iconst (v := (1 : Int32)) hx hb dX12_trust_101 (by decide) ?_
  refine lv_aload_n hx hb dX12_trust_102 rfl (lv_at hl 1 rfl) ?_
  refine va_get (D := D) (ci := 12) (v := .ref q_marsh) (C := RX12) (T := TX12) (N := 29) hx hb hts hn_X12_trust_X12 hown hK hP 0 rfl rfl 19 (by decide) (hts _ hw_X12_trust_f50) (fun _ h9 => h9) rfl dX12_trust_103 ?_
  refine lv_iload hx hb dX12_trust_106 (lv_at hl 6 rfl) ?_
  obtain ⟨g_2, hf⟩ := pgd_e hf
  refine va_iald hx hb hK hP 2 1 rfl rfl g_2 dX12_trust_108 ?_
  refine lv_ishl hx hb dX12_trust_109 ?_
  refine lv_ior hx hb dX12_trust_110 ?_
  refine lv_topi (fun x5_3 ex5_3 => ?_)
  have hf := plt_e ex5_3 hf
  refine lv_istore (lv' := [(5, .int x5_3), (4, .int x4_1), (0, .ref a0), (1, .int x1), (2, .int x2), (3, .int x3), (6, .int x6)]) hx hb dX12_trust_111 hl (by decide) rfl (fun ls hl => ?_)
  obtain ⟨x6_4, ex6_4⟩ : ∃ z : Int32, z = x6 + (1 : Int32) := ⟨_, rfl⟩
  have hf := plt_e ex6_4 hf
  refine lv_iinc (v := x6_4) (lv' := [(6, .int x6_4), (5, .int x5_3), (4, .int x4_1), (0, .ref a0), (1, .int x1), (2, .int x2), (3, .int x3)]) hx hb dX12_trust_113 hl (k := 6) rfl (by rw [ex6_4]; rfl) (by decide) rfl (fun ls hl => ?_)
  refine lv_goto (tgt := 46) hx hb dX12_trust_116 (by decide) ?_
  exact hr46 x3 x4_1 x5_3 x6_4 s_trace hf _ _ hP hD hS ls (lv_sub hl [3, 4, 5, 6, 2, 1, 0] rfl)

def f_X12_trust_95 (r46 : (Int32) → (Int32) → (Int32) → (Int32) → (Int64) → Option ((Int32) × (Int64))) (s_sheets : Nat → Int32) (s_marsh : Nat → Int32) (s_books : Nat → Int32) (s_youngest : Nat → Int32) (s_oldest : Nat → Int32) (x1 : Int32) (x2 : Int32) (x3 : Int32) (x5 : Int32) (x6 : Int32) (z0 : Int32) (s_trace : Int64) : Option ((Int32) × (Int64)) :=
  f_X12_trust_96 r46 s_sheets s_marsh s_books s_youngest s_oldest x1 x2 x3 x5 x6 z0 (0 : Int32) s_trace

set_option maxRecDepth 100000 in
set_option maxHeartbeats 4000000 in
theorem k_X12_trust_95 {p : Program} {l : Launch} {e : Env} {s : State} {m : MethodId} {args : Array Value} {below : List Frame} {meth : Method} {c : Code} {A : Nat → Prop} {D : va_G} {cA : Nat → ClassId} (C0 : MX p s m args meth c cX12_trust 7 wsX12_trust RX12 (some .int) D cA) (hA : ∀ q, s.heap.size ≤ q → A q) {a0 : Nat} {q_sheets : Nat} {q_marsh : Nat} {q_books : Nat} {q_youngest : Nat} {q_oldest : Nat} {q_text : Nat} {q_depths : Nat} {q_tune : Nat} {q_far : Nat} {q_told : Nat} {q_years : Nat} {q_months : Nat} {q_ring : Nat} {q_woods : Nat} {q_ends : Nat} {q_wood : Nat} {q_knowns : Nat} {q_known : Nat} {q_weight : Nat} {q_chance : Nat} {q_digs : Nat} {q_draft : Nat} {q_isKept : Nat} {s_typed : Int32} {s_earliest : Int32} {s_latest : Int32} {s_firstYear : Int32} {s_rings : Int32} {s_sheets : Nat → Int32} {s_marsh : Nat → Int32} {s_books : Nat → Int32} {s_youngest : Nat → Int32} {s_oldest : Nat → Int32} {x1 : Int32} {x2 : Int32} {o_r : Int32} {o_trace : Int64} {r46 : (Int32) → (Int32) → (Int32) → (Int32) → (Int64) → Option ((Int32) × (Int64))} (hr46 : ∀ (x3 : Int32) (x4 : Int32) (x5 : Int32) (x6 : Int32) (s_trace : Int64), r46 x3 x4 x5 x6 s_trace = some (o_r, o_trace) → ∀ (H : Heap) (locs : List Loc), va_P D vwCl (w_X12_trust a0 q_sheets q_marsh q_books q_youngest q_oldest q_text q_depths q_tune q_far q_told q_years q_months q_ring q_woods q_ends q_wood q_knowns q_known q_weight q_chance q_digs q_draft q_isKept cA s_trace s_typed s_earliest s_latest s_firstYear s_rings s_sheets s_marsh s_books s_youngest s_oldest) H → va_D A (w_X12_trust a0 q_sheets q_marsh q_books q_youngest q_oldest q_text q_depths q_tune q_far q_told q_years q_months q_ring q_woods q_ends q_wood q_knowns q_known q_weight q_chance q_digs q_draft q_isKept cA s_trace s_typed s_earliest s_latest s_firstYear s_rings s_sheets s_marsh s_books s_youngest s_oldest) → va_S A s.heap H locs → ∀ ls : Array Slot, lv_has ls 7 [(0, .ref a0), (1, .int x1), (2, .int x2), (3, .int x3), (4, .int x4), (5, .int x5), (6, .int x6)] → W p l e rm_X12_trust s m args below meth c H locs 0 0 (MQ below (CQ D (some (.int o_r)) (w_X12_trust a0 q_sheets q_marsh q_books q_youngest q_oldest q_text q_depths q_tune q_far q_told q_years q_months q_ring q_woods q_ends q_wood q_knowns q_known q_weight q_chance q_digs q_draft q_isKept cA o_trace s_typed s_earliest s_latest s_firstYear s_rings s_sheets s_marsh s_books s_youngest s_oldest) A) args s 0 0 A) (F0 m 46 ls [])) : ∀ (x3 : Int32) (x5 : Int32) (x6 : Int32) (z0 : Int32) (s_trace : Int64), f_X12_trust_95 r46 s_sheets s_marsh s_books s_youngest s_oldest x1 x2 x3 x5 x6 z0 s_trace = some (o_r, o_trace) → ∀ (H : Heap) (locs : List Loc), va_P D vwCl (w_X12_trust a0 q_sheets q_marsh q_books q_youngest q_oldest q_text q_depths q_tune q_far q_told q_years q_months q_ring q_woods q_ends q_wood q_knowns q_known q_weight q_chance q_digs q_draft q_isKept cA s_trace s_typed s_earliest s_latest s_firstYear s_rings s_sheets s_marsh s_books s_youngest s_oldest) H → va_D A (w_X12_trust a0 q_sheets q_marsh q_books q_youngest q_oldest q_text q_depths q_tune q_far q_told q_years q_months q_ring q_woods q_ends q_wood q_knowns q_known q_weight q_chance q_digs q_draft q_isKept cA s_trace s_typed s_earliest s_latest s_firstYear s_rings s_sheets s_marsh s_books s_youngest s_oldest) → va_S A s.heap H locs → ∀ ls : Array Slot, lv_has ls 7 [(0, .ref a0), (1, .int x1), (2, .int x2), (3, .int x3), (5, .int x5), (6, .int x6)] → W p l e rm_X12_trust s m args below meth c H locs 0 0 (MQ below (CQ D (some (.int o_r)) (w_X12_trust a0 q_sheets q_marsh q_books q_youngest q_oldest q_text q_depths q_tune q_far q_told q_years q_months q_ring q_woods q_ends q_wood q_knowns q_known q_weight q_chance q_digs q_draft q_isKept cA o_trace s_typed s_earliest s_latest s_firstYear s_rings s_sheets s_marsh s_books s_youngest s_oldest) A) args s 0 0 A) (F0 m 95 ls [.int z0]) := by
  obtain ⟨hx, hb, hml, hown, hts, hr, hlocks, hX⟩ := C0
  have hK := hX.1
  have hN := hX.2
  intro x3 x5 x6 z0 s_trace hf H locs hP hD hS ls hl
  unfold f_X12_trust_95 at hf
  refine lv_iconst (v := (0 : Int32)) hx hb dX12_trust_95 (by decide) ?_
  exact k_X12_trust_96 ⟨hx, hb, hml, hown, hts, hr, hlocks, hX⟩ hA hr46 x3 x5 x6 z0 (0 : Int32) s_trace hf _ _ hP hD hS ls (lv_sub hl [0, 1, 2, 3, 4, 5] rfl)

def f_X12_trust_46 (s_sheets : Nat → Int32) (s_marsh : Nat → Int32) (s_books : Nat → Int32) (s_youngest : Nat → Int32) (s_oldest : Nat → Int32) (x1 : Int32) (x2 : Int32) : Nat → (Int32) → (Int32) → (Int32) → (Int32) → (Int64) → Option ((Int32) × (Int64))
  | 0, _, _, _, _, _ => none
  | k + 1, x3, x4, x5, x6, s_trace =>
    pbr ((s_sheets (0 : Int32).toNatClampNeg) ≤ x6)
      (pbr (x1 = (0 : Int32))
        (plt ((s_trace + (1 : Int64)) : Int64) (fun trace_3 => (
        some (x3, trace_3))))
      (pbr (x1 = (1 : Int32))
        (plt ((s_trace + (11 : Int64)) : Int64) (fun trace_5 => (
        some ((x3 + x4), trace_5))))
      (pbr (x1 = (2 : Int32))
        (plt ((s_trace + (101 : Int64)) : Int64) (fun trace_7 => (
        some ((x3 + (s_books (0 : Int32).toNatClampNeg)), trace_7))))
      (pbr (x1 = (3 : Int32))
        (plt ((s_trace + (1011 : Int64)) : Int64) (fun trace_9 => (
        pcl (f_X12_bitsIn x5) (fun r_10 => (
        some (((x3 + x4) * r_10), trace_9))))))
      (pbr (x1 = (4 : Int32))
        (plt ((s_trace + (10101 : Int64)) : Int64) (fun trace_13 => (
        some (((2 : Int32) * (x3 + (s_books (0 : Int32).toNatClampNeg))), trace_13))))
      (plt ((s_trace + (100001 : Int64)) : Int64) (fun trace_14 => (
      pgd (pin x2 36) (
      some ((x3 - ((((s_youngest x2.toNatClampNeg) - (s_oldest x2.toNatClampNeg)) + (1 : Int32)) / (100 : Int32))), trace_14))))))))))
      (pgd (pin x6 36) (
      pgd (pin x2 36) (
      pbr ((s_youngest x2.toNatClampNeg) < (s_oldest x6.toNatClampNeg))
        (f_X12_trust_95 (f_X12_trust_46 s_sheets s_marsh s_books s_youngest s_oldest x1 x2 k) s_sheets s_marsh s_books s_youngest s_oldest x1 x2 x3 x5 x6 x4 s_trace)
        (pbr ((s_youngest x6.toNatClampNeg) < (s_oldest x2.toNatClampNeg))
          (f_X12_trust_95 (f_X12_trust_46 s_sheets s_marsh s_books s_youngest s_oldest x1 x2 k) s_sheets s_marsh s_books s_youngest s_oldest x1 x2 x3 x5 x6 x4 s_trace)
          (f_X12_trust_96 (f_X12_trust_46 s_sheets s_marsh s_books s_youngest s_oldest x1 x2 k) s_sheets s_marsh s_books s_youngest s_oldest x1 x2 x3 x5 x6 x4 (1 : Int32) s_trace)))))

set_option maxRecDepth 100000 in
set_option maxHeartbeats 4000000 in
theorem k_X12_trust_46 {p : Program} {l : Launch} {e : Env} {s : State} {m : MethodId} {args : Array Value} {below : List Frame} {meth : Method} {c : Code} {A : Nat → Prop} {D : va_G} {cA : Nat → ClassId} (C0 : MX p s m args meth c cX12_trust 7 wsX12_trust RX12 (some .int) D cA) (hA : ∀ q, s.heap.size ≤ q → A q) {a0 : Nat} {q_sheets : Nat} {q_marsh : Nat} {q_books : Nat} {q_youngest : Nat} {q_oldest : Nat} {q_text : Nat} {q_depths : Nat} {q_tune : Nat} {q_far : Nat} {q_told : Nat} {q_years : Nat} {q_months : Nat} {q_ring : Nat} {q_woods : Nat} {q_ends : Nat} {q_wood : Nat} {q_knowns : Nat} {q_known : Nat} {q_weight : Nat} {q_chance : Nat} {q_digs : Nat} {q_draft : Nat} {q_isKept : Nat} {s_typed : Int32} {s_earliest : Int32} {s_latest : Int32} {s_firstYear : Int32} {s_rings : Int32} {s_sheets : Nat → Int32} {s_marsh : Nat → Int32} {s_books : Nat → Int32} {s_youngest : Nat → Int32} {s_oldest : Nat → Int32} {x1 : Int32} {x2 : Int32} {o_r : Int32} {o_trace : Int64} : ∀ (k : Nat) (x3 : Int32) (x4 : Int32) (x5 : Int32) (x6 : Int32) (s_trace : Int64), f_X12_trust_46 s_sheets s_marsh s_books s_youngest s_oldest x1 x2 k x3 x4 x5 x6 s_trace = some (o_r, o_trace) → ∀ (H : Heap) (locs : List Loc), va_P D vwCl (w_X12_trust a0 q_sheets q_marsh q_books q_youngest q_oldest q_text q_depths q_tune q_far q_told q_years q_months q_ring q_woods q_ends q_wood q_knowns q_known q_weight q_chance q_digs q_draft q_isKept cA s_trace s_typed s_earliest s_latest s_firstYear s_rings s_sheets s_marsh s_books s_youngest s_oldest) H → va_D A (w_X12_trust a0 q_sheets q_marsh q_books q_youngest q_oldest q_text q_depths q_tune q_far q_told q_years q_months q_ring q_woods q_ends q_wood q_knowns q_known q_weight q_chance q_digs q_draft q_isKept cA s_trace s_typed s_earliest s_latest s_firstYear s_rings s_sheets s_marsh s_books s_youngest s_oldest) → va_S A s.heap H locs → ∀ ls : Array Slot, lv_has ls 7 [(0, .ref a0), (1, .int x1), (2, .int x2), (3, .int x3), (4, .int x4), (5, .int x5), (6, .int x6)] → W p l e rm_X12_trust s m args below meth c H locs 0 0 (MQ below (CQ D (some (.int o_r)) (w_X12_trust a0 q_sheets q_marsh q_books q_youngest q_oldest q_text q_depths q_tune q_far q_told q_years q_months q_ring q_woods q_ends q_wood q_knowns q_known q_weight q_chance q_digs q_draft q_isKept cA o_trace s_typed s_earliest s_latest s_firstYear s_rings s_sheets s_marsh s_books s_youngest s_oldest) A) args s 0 0 A) (F0 m 46 ls []) := by
  obtain ⟨hx, hb, hml, hown, hts, hr, hlocks, hX⟩ := C0
  have hK := hX.1
  have hN := hX.2
  intro k
  induction k with
  | zero =>
    intro x3 x4 x5 x6 s_trace hf
    cases hf
  | succ k ih =>
    intro x3 x4 x5 x6 s_trace hf H locs hP hD hS ls hl
    rw [f_X12_trust_46] at hf
    refine lv_iload hx hb dX12_trust_46 (lv_at hl 6 rfl) ?_
    refine lv_aload_n hx hb dX12_trust_48 rfl (lv_at hl 0 rfl) ?_
    refine va_get (D := D) (ci := 12) (v := .ref q_sheets) (C := RX12) (T := TX12) (N := 29) hx hb hts hn_X12_trust_X12 hown hK hP 0 rfl rfl 18 (by decide) (hts _ hw_X12_trust_f47) (fun _ h9 => h9) rfl dX12_trust_49 ?_
    refine lv_iconst (v := (0 : Int32)) hx hb dX12_trust_52 (by decide) ?_
    refine va_iald hx hb hK hP 1 1 rfl rfl (show pin (0 : Int32) 3 by decide +kernel) dX12_trust_53 ?_
    refine lv_icmp_ge (tgt := 119) hx hb dX12_trust_54 (by decide) (fun c_1 => ?_) (fun c_1 => ?_)
    · have hf := pbr_t c_1 hf
      refine lv_iload_n hx hb dX12_trust_119 rfl (lv_at hl 1 rfl) ?_
      by_cases c_2 : x1 = (0 : Int32)
      · have hf := pbr_t c_2 hf
        refine lv_tableIn (off := 36) (tgt := 156) hx hb dX12_trust_120 (by rw [c_2]; decide) (by rw [c_2]; decide) (by rw [c_2]; rfl) (by decide) ?_
        refine lv_aload_n hx hb dX12_trust_156 rfl (lv_at hl 0 rfl) ?_
        refine lv_dup hx hb dX12_trust_157 rfl ?_
        refine va_get (D := D) (ci := 12) (v := .long s_trace) (C := RX12) (T := TX12) (N := 29) hx hb hts hn_X12_trust_X12 hown hK hP 0 rfl rfl 0 (by decide) (hts _ hw_X12_trust_f175) (fun _ h9 => h9) rfl dX12_trust_158 ?_
        refine lv_lconst (v := (1 : Int64)) hx hb dX12_trust_161 (by decide) ?_
        refine lv_ladd hx hb dX12_trust_162 ?_
        refine lv_topl (fun trace_3 etrace_3 => ?_)
        have hf := plt_e etrace_3 hf
        refine va_put (D := D) (ci := 12) (v := .long trace_3) (ty := .long) (C := RX12) (T := TX12) (N := 29) hx hb hts hn_X12_trust_X12 tyX12 tyX12_ok nmX12 hown hK hP hD hS 0 rfl rfl 0 (by decide) (hts _ hw_X12_trust_f175) (fun _ h9 => h9) rfl (by decide +kernel) rfl rfl (Nat.le_of_ble_eq_true rfl) dX12_trust_163 (fun H locs hP hD hS => ?_)
        have hP : va_P D vwCl (w_X12_trust a0 q_sheets q_marsh q_books q_youngest q_oldest q_text q_depths q_tune q_far q_told q_years q_months q_ring q_woods q_ends q_wood q_knowns q_known q_weight q_chance q_digs q_draft q_isKept cA trace_3 s_typed s_earliest s_latest s_firstYear s_rings s_sheets s_marsh s_books s_youngest s_oldest) H := hP
        have hD : va_D A (w_X12_trust a0 q_sheets q_marsh q_books q_youngest q_oldest q_text q_depths q_tune q_far q_told q_years q_months q_ring q_woods q_ends q_wood q_knowns q_known q_weight q_chance q_digs q_draft q_isKept cA trace_3 s_typed s_earliest s_latest s_firstYear s_rings s_sheets s_marsh s_books s_youngest s_oldest) := hD
        refine lv_iload_n hx hb dX12_trust_166 rfl (lv_at hl 3 rfl) ?_
        obtain ⟨rfl, rfl⟩ := pe2 hf
        exact m_iret hx hb hr hlocks hP hS dX12_trust_167
      have hf := pbr_f c_2 hf
      by_cases c_4 : x1 = (1 : Int32)
      · have hf := pbr_t c_4 hf
        refine lv_tableIn (off := 48) (tgt := 168) hx hb dX12_trust_120 (by rw [c_4]; decide) (by rw [c_4]; decide) (by rw [c_4]; rfl) (by decide) ?_
        refine lv_aload_n hx hb dX12_trust_168 rfl (lv_at hl 0 rfl) ?_
        refine lv_dup hx hb dX12_trust_169 rfl ?_
        refine va_get (D := D) (ci := 12) (v := .long s_trace) (C := RX12) (T := TX12) (N := 29) hx hb hts hn_X12_trust_X12 hown hK hP 0 rfl rfl 0 (by decide) (hts _ hw_X12_trust_f175) (fun _ h9 => h9) rfl dX12_trust_170 ?_
        refine lv_ldc2 (v := (11 : Int64)) hx hb hown (hts _ hw_X12_trust_c179) dX12_trust_173 ?_
        refine lv_ladd hx hb dX12_trust_176 ?_
        refine lv_topl (fun trace_5 etrace_5 => ?_)
        have hf := plt_e etrace_5 hf
        refine va_put (D := D) (ci := 12) (v := .long trace_5) (ty := .long) (C := RX12) (T := TX12) (N := 29) hx hb hts hn_X12_trust_X12 tyX12 tyX12_ok nmX12 hown hK hP hD hS 0 rfl rfl 0 (by decide) (hts _ hw_X12_trust_f175) (fun _ h9 => h9) rfl (by decide +kernel) rfl rfl (Nat.le_of_ble_eq_true rfl) dX12_trust_177 (fun H locs hP hD hS => ?_)
        have hP : va_P D vwCl (w_X12_trust a0 q_sheets q_marsh q_books q_youngest q_oldest q_text q_depths q_tune q_far q_told q_years q_months q_ring q_woods q_ends q_wood q_knowns q_known q_weight q_chance q_digs q_draft q_isKept cA trace_5 s_typed s_earliest s_latest s_firstYear s_rings s_sheets s_marsh s_books s_youngest s_oldest) H := hP
        have hD : va_D A (w_X12_trust a0 q_sheets q_marsh q_books q_youngest q_oldest q_text q_depths q_tune q_far q_told q_years q_months q_ring q_woods q_ends q_wood q_knowns q_known q_weight q_chance q_digs q_draft q_isKept cA trace_5 s_typed s_earliest s_latest s_firstYear s_rings s_sheets s_marsh s_books s_youngest s_oldest) := hD
        refine lv_iload_n hx hb dX12_trust_180 rfl (lv_at hl 3 rfl) ?_
        refine lv_iload hx hb dX12_trust_181 (lv_at hl 4 rfl) ?_
        refine lv_iadd hx hb dX12_trust_183 ?_
        obtain ⟨rfl, rfl⟩ := pe2 hf
        exact m_iret hx hb hr hlocks hP hS dX12_trust_184
      have hf := pbr_f c_4 hf
      by_cases c_6 : x1 = (2 : Int32)
      · have hf := pbr_t c_6 hf
        refine lv_tableIn (off := 65) (tgt := 185) hx hb dX12_trust_120 (by rw [c_6]; decide) (by rw [c_6]; decide) (by rw [c_6]; rfl) (by decide) ?_
        refine lv_aload_n hx hb dX12_trust_185 rfl (lv_at hl 0 rfl) ?_
        refine lv_dup hx hb dX12_trust_186 rfl ?_
        refine va_get (D := D) (ci := 12) (v := .long s_trace) (C := RX12) (T := TX12) (N := 29) hx hb hts hn_X12_trust_X12 hown hK hP 0 rfl rfl 0 (by decide) (hts _ hw_X12_trust_f175) (fun _ h9 => h9) rfl dX12_trust_187 ?_
        refine lv_ldc2 (v := (101 : Int64)) hx hb hown (hts _ hw_X12_trust_c181) dX12_trust_190 ?_
        refine lv_ladd hx hb dX12_trust_193 ?_
        refine lv_topl (fun trace_7 etrace_7 => ?_)
        have hf := plt_e etrace_7 hf
        refine va_put (D := D) (ci := 12) (v := .long trace_7) (ty := .long) (C := RX12) (T := TX12) (N := 29) hx hb hts hn_X12_trust_X12 tyX12 tyX12_ok nmX12 hown hK hP hD hS 0 rfl rfl 0 (by decide) (hts _ hw_X12_trust_f175) (fun _ h9 => h9) rfl (by decide +kernel) rfl rfl (Nat.le_of_ble_eq_true rfl) dX12_trust_194 (fun H locs hP hD hS => ?_)
        have hP : va_P D vwCl (w_X12_trust a0 q_sheets q_marsh q_books q_youngest q_oldest q_text q_depths q_tune q_far q_told q_years q_months q_ring q_woods q_ends q_wood q_knowns q_known q_weight q_chance q_digs q_draft q_isKept cA trace_7 s_typed s_earliest s_latest s_firstYear s_rings s_sheets s_marsh s_books s_youngest s_oldest) H := hP
        have hD : va_D A (w_X12_trust a0 q_sheets q_marsh q_books q_youngest q_oldest q_text q_depths q_tune q_far q_told q_years q_months q_ring q_woods q_ends q_wood q_knowns q_known q_weight q_chance q_digs q_draft q_isKept cA trace_7 s_typed s_earliest s_latest s_firstYear s_rings s_sheets s_marsh s_books s_youngest s_oldest) := hD
        refine lv_iload_n hx hb dX12_trust_197 rfl (lv_at hl 3 rfl) ?_
        refine lv_aload_n hx hb dX12_trust_198 rfl (lv_at hl 0 rfl) ?_
        refine va_get (D := D) (ci := 12) (v := .ref q_books) (C := RX12) (T := TX12) (N := 29) hx hb hts hn_X12_trust_X12 hown hK hP 0 rfl rfl 6 (by decide) (hts _ hw_X12_trust_f23) (fun _ h9 => h9) rfl dX12_trust_199 ?_
        refine lv_iconst (v := (0 : Int32)) hx hb dX12_trust_202 (by decide) ?_
        refine va_iald hx hb hK hP 3 1 rfl rfl (show pin (0 : Int32) 3 by decide +kernel) dX12_trust_203 ?_
        refine lv_iadd hx hb dX12_trust_204 ?_
        obtain ⟨rfl, rfl⟩ := pe2 hf
        exact m_iret hx hb hr hlocks hP hS dX12_trust_205
      have hf := pbr_f c_6 hf
      by_cases c_8 : x1 = (3 : Int32)
      · have hf := pbr_t c_8 hf
        refine lv_tableIn (off := 86) (tgt := 206) hx hb dX12_trust_120 (by rw [c_8]; decide) (by rw [c_8]; decide) (by rw [c_8]; rfl) (by decide) ?_
        refine lv_aload_n hx hb dX12_trust_206 rfl (lv_at hl 0 rfl) ?_
        refine lv_dup hx hb dX12_trust_207 rfl ?_
        refine va_get (D := D) (ci := 12) (v := .long s_trace) (C := RX12) (T := TX12) (N := 29) hx hb hts hn_X12_trust_X12 hown hK hP 0 rfl rfl 0 (by decide) (hts _ hw_X12_trust_f175) (fun _ h9 => h9) rfl dX12_trust_208 ?_
        refine lv_ldc2 (v := (1011 : Int64)) hx hb hown (hts _ hw_X12_trust_c183) dX12_trust_211 ?_
        refine lv_ladd hx hb dX12_trust_214 ?_
        refine lv_topl (fun trace_9 etrace_9 => ?_)
        have hf := plt_e etrace_9 hf
        refine va_put (D := D) (ci := 12) (v := .long trace_9) (ty := .long) (C := RX12) (T := TX12) (N := 29) hx hb hts hn_X12_trust_X12 tyX12 tyX12_ok nmX12 hown hK hP hD hS 0 rfl rfl 0 (by decide) (hts _ hw_X12_trust_f175) (fun _ h9 => h9) rfl (by decide +kernel) rfl rfl (Nat.le_of_ble_eq_true rfl) dX12_trust_215 (fun H locs hP hD hS => ?_)
        have hP : va_P D vwCl (w_X12_trust a0 q_sheets q_marsh q_books q_youngest q_oldest q_text q_depths q_tune q_far q_told q_years q_months q_ring q_woods q_ends q_wood q_knowns q_known q_weight q_chance q_digs q_draft q_isKept cA trace_9 s_typed s_earliest s_latest s_firstYear s_rings s_sheets s_marsh s_books s_youngest s_oldest) H := hP
        have hD : va_D A (w_X12_trust a0 q_sheets q_marsh q_books q_youngest q_oldest q_text q_depths q_tune q_far q_told q_years q_months q_ring q_woods q_ends q_wood q_knowns q_known q_weight q_chance q_digs q_draft q_isKept cA trace_9 s_typed s_earliest s_latest s_firstYear s_rings s_sheets s_marsh s_books s_youngest s_oldest) := hD
        refine lv_iload_n hx hb dX12_trust_218 rfl (lv_at hl 3 rfl) ?_
        refine lv_iload hx hb dX12_trust_219 (lv_at hl 4 rfl) ?_
        refine lv_iadd hx hb dX12_trust_221 ?_
        refine lv_iload hx hb dX12_trust_222 (lv_at hl 5 rfl) ?_
        obtain ⟨r_10, hc_11, hf⟩ := pcl_e hf
        refine m_callS2 (As := [.int x5]) (rest := [.int (x3 + x4)]) ⟨hx, hb, hml, hown, hts⟩ hX (ct_X12_bitsIn l D cA x5 r_10 hc_11) (va_cwS 1 hts gX12_trust_X12_bitsIn rfl rfl rfl (by decide +kernel) ⟨Nat.le_of_ble_eq_true rfl, Nat.le_of_ble_eq_true rfl⟩) hP hD hS hA [] [0, 1, 2, 3, 4, 5] 6 (by decide) rfl rfl (WS' := (w_X12_trust a0 q_sheets q_marsh q_books q_youngest q_oldest q_text q_depths q_tune q_far q_told q_years q_months q_ring q_woods q_ends q_wood q_knowns q_known q_weight q_chance q_digs q_draft q_isKept cA trace_9 s_typed s_earliest s_latest s_firstYear s_rings s_sheets s_marsh s_books s_youngest s_oldest)) (WR := [(a0, .inr (12, [.long trace_9, .ref q_text, .int s_typed, .ref q_depths, .ref q_tune, .ref q_far, .ref q_books, .ref q_told, .int s_earliest, .int s_latest, .ref q_years, .ref q_months, .int s_firstYear, .int s_rings, .ref q_ring, .ref q_woods, .ref q_ends, .ref q_wood, .ref q_sheets, .ref q_marsh, .ref q_oldest, .ref q_youngest, .ref q_knowns, .ref q_known, .ref q_weight, .ref q_chance, .ref q_digs, .ref q_draft, .ref q_isKept])), (q_sheets, .inl (cA 1, 3, .inl s_sheets)), (q_marsh, .inl (cA 1, 36, .inl s_marsh)), (q_books, .inl (cA 1, 3, .inl s_books)), (q_youngest, .inl (cA 1, 36, .inl s_youngest)), (q_oldest, .inl (cA 1, 36, .inl s_oldest))]) rfl rfl rfl rfl (by decide) (by decide) rfl hl.1 rfl (st' := [.int r_10, .int (x3 + x4)]) rfl (Nat.le_of_ble_eq_true rfl) ⟨Nat.zero_le _, Nat.zero_le _⟩ dX12_trust_224 (fun H locs hP hD hS => ?_)
        refine lv_imul hx hb dX12_trust_227 ?_
        obtain ⟨rfl, rfl⟩ := pe2 hf
        exact m_iret hx hb hr hlocks hP hS dX12_trust_228
      have hf := pbr_f c_8 hf
      by_cases c_12 : x1 = (4 : Int32)
      · have hf := pbr_t c_12 hf
        refine lv_tableIn (off := 109) (tgt := 229) hx hb dX12_trust_120 (by rw [c_12]; decide) (by rw [c_12]; decide) (by rw [c_12]; rfl) (by decide) ?_
        refine lv_aload_n hx hb dX12_trust_229 rfl (lv_at hl 0 rfl) ?_
        refine lv_dup hx hb dX12_trust_230 rfl ?_
        refine va_get (D := D) (ci := 12) (v := .long s_trace) (C := RX12) (T := TX12) (N := 29) hx hb hts hn_X12_trust_X12 hown hK hP 0 rfl rfl 0 (by decide) (hts _ hw_X12_trust_f175) (fun _ h9 => h9) rfl dX12_trust_231 ?_
        refine lv_ldc2 (v := (10101 : Int64)) hx hb hown (hts _ hw_X12_trust_c185) dX12_trust_234 ?_
        refine lv_ladd hx hb dX12_trust_237 ?_
        refine lv_topl (fun trace_13 etrace_13 => ?_)
        have hf := plt_e etrace_13 hf
        refine va_put (D := D) (ci := 12) (v := .long trace_13) (ty := .long) (C := RX12) (T := TX12) (N := 29) hx hb hts hn_X12_trust_X12 tyX12 tyX12_ok nmX12 hown hK hP hD hS 0 rfl rfl 0 (by decide) (hts _ hw_X12_trust_f175) (fun _ h9 => h9) rfl (by decide +kernel) rfl rfl (Nat.le_of_ble_eq_true rfl) dX12_trust_238 (fun H locs hP hD hS => ?_)
        have hP : va_P D vwCl (w_X12_trust a0 q_sheets q_marsh q_books q_youngest q_oldest q_text q_depths q_tune q_far q_told q_years q_months q_ring q_woods q_ends q_wood q_knowns q_known q_weight q_chance q_digs q_draft q_isKept cA trace_13 s_typed s_earliest s_latest s_firstYear s_rings s_sheets s_marsh s_books s_youngest s_oldest) H := hP
        have hD : va_D A (w_X12_trust a0 q_sheets q_marsh q_books q_youngest q_oldest q_text q_depths q_tune q_far q_told q_years q_months q_ring q_woods q_ends q_wood q_knowns q_known q_weight q_chance q_digs q_draft q_isKept cA trace_13 s_typed s_earliest s_latest s_firstYear s_rings s_sheets s_marsh s_books s_youngest s_oldest) := hD
        refine lv_iconst (v := (2 : Int32)) hx hb dX12_trust_241 (by decide) ?_
        refine lv_iload_n hx hb dX12_trust_242 rfl (lv_at hl 3 rfl) ?_
        refine lv_aload_n hx hb dX12_trust_243 rfl (lv_at hl 0 rfl) ?_
        refine va_get (D := D) (ci := 12) (v := .ref q_books) (C := RX12) (T := TX12) (N := 29) hx hb hts hn_X12_trust_X12 hown hK hP 0 rfl rfl 6 (by decide) (hts _ hw_X12_trust_f23) (fun _ h9 => h9) rfl dX12_trust_244 ?_
        refine lv_iconst (v := (0 : Int32)) hx hb dX12_trust_247 (by decide) ?_
        refine va_iald hx hb hK hP 3 1 rfl rfl (show pin (0 : Int32) 3 by decide +kernel) dX12_trust_248 ?_
        refine lv_iadd hx hb dX12_trust_249 ?_
        refine lv_imul hx hb dX12_trust_250 ?_
        obtain ⟨rfl, rfl⟩ := pe2 hf
        exact m_iret hx hb hr hlocks hP hS dX12_trust_251
      have hf := pbr_f c_12 hf
      refine lv_tableOut (tgt := 252) hx hb dX12_trust_120 (by have := lv_neT (a := 0) c_2 (by decide); have := lv_neT (a := 1) c_4 (by decide); have := lv_neT (a := 2) c_6 (by decide); have := lv_neT (a := 3) c_8 (by decide); have := lv_neT (a := 4) c_12 (by decide); omega) (by decide) ?_
      refine lv_aload_n hx hb dX12_trust_252 rfl (lv_at hl 0 rfl) ?_
      refine lv_dup hx hb dX12_trust_253 rfl ?_
      refine va_get (D := D) (ci := 12) (v := .long s_trace) (C := RX12) (T := TX12) (N := 29) hx hb hts hn_X12_trust_X12 hown hK hP 0 rfl rfl 0 (by decide) (hts _ hw_X12_trust_f175) (fun _ h9 => h9) rfl dX12_trust_254 ?_
      refine lv_ldc2 (v := (100001 : Int64)) hx hb hown (hts _ hw_X12_trust_c187) dX12_trust_257 ?_
      refine lv_ladd hx hb dX12_trust_260 ?_
      refine lv_topl (fun trace_14 etrace_14 => ?_)
      have hf := plt_e etrace_14 hf
      refine va_put (D := D) (ci := 12) (v := .long trace_14) (ty := .long) (C := RX12) (T := TX12) (N := 29) hx hb hts hn_X12_trust_X12 tyX12 tyX12_ok nmX12 hown hK hP hD hS 0 rfl rfl 0 (by decide) (hts _ hw_X12_trust_f175) (fun _ h9 => h9) rfl (by decide +kernel) rfl rfl (Nat.le_of_ble_eq_true rfl) dX12_trust_261 (fun H locs hP hD hS => ?_)
      have hP : va_P D vwCl (w_X12_trust a0 q_sheets q_marsh q_books q_youngest q_oldest q_text q_depths q_tune q_far q_told q_years q_months q_ring q_woods q_ends q_wood q_knowns q_known q_weight q_chance q_digs q_draft q_isKept cA trace_14 s_typed s_earliest s_latest s_firstYear s_rings s_sheets s_marsh s_books s_youngest s_oldest) H := hP
      have hD : va_D A (w_X12_trust a0 q_sheets q_marsh q_books q_youngest q_oldest q_text q_depths q_tune q_far q_told q_years q_months q_ring q_woods q_ends q_wood q_knowns q_known q_weight q_chance q_digs q_draft q_isKept cA trace_14 s_typed s_earliest s_latest s_firstYear s_rings s_sheets s_marsh s_books s_youngest s_oldest) := hD
      refine lv_iload_n hx hb dX12_trust_264 rfl (lv_at hl 3 rfl) ?_
      refine lv_aload_n hx hb dX12_trust_265 rfl (lv_at hl 0 rfl) ?_
      refine va_get (D := D) (ci := 12) (v := .ref q_youngest) (C := RX12) (T := TX12) (N := 29) hx hb hts hn_X12_trust_X12 hown hK hP 0 rfl rfl 21 (by decide) (hts _ hw_X12_trust_f56) (fun _ h9 => h9) rfl dX12_trust_266 ?_
      refine lv_iload_n hx hb dX12_trust_269 rfl (lv_at hl 2 rfl) ?_
      obtain ⟨g_15, hf⟩ := pgd_e hf
      refine va_iald hx hb hK hP 4 1 rfl rfl g_15 dX12_trust_270 ?_
      refine lv_aload_n hx hb dX12_trust_271 rfl (lv_at hl 0 rfl) ?_
      refine va_get (D := D) (ci := 12) (v := .ref q_oldest) (C := RX12) (T := TX12) (N := 29) hx hb hts hn_X12_trust_X12 hown hK hP 0 rfl rfl 20 (by decide) (hts _ hw_X12_trust_f53) (fun _ h9 => h9) rfl dX12_trust_272 ?_
      refine lv_iload_n hx hb dX12_trust_275 rfl (lv_at hl 2 rfl) ?_
      refine va_iald hx hb hK hP 5 1 rfl rfl g_15 dX12_trust_276 ?_
      refine lv_isub hx hb dX12_trust_277 ?_
      refine lv_iconst (v := (1 : Int32)) hx hb dX12_trust_278 (by decide) ?_
      refine lv_iadd hx hb dX12_trust_279 ?_
      refine lv_bipush (v := (100 : Int32)) hx hb dX12_trust_280 (by decide) ?_
      refine lv_idiv hx hb dX12_trust_282 (by decide) ?_
      refine lv_isub hx hb dX12_trust_283 ?_
      obtain ⟨rfl, rfl⟩ := pe2 hf
      exact m_iret hx hb hr hlocks hP hS dX12_trust_284
    have hf := pbr_f c_1 hf
    refine lv_iload hx hb dX12_trust_57 (lv_at hl 4 rfl) ?_
    refine lv_aload_n hx hb dX12_trust_59 rfl (lv_at hl 0 rfl) ?_
    refine va_get (D := D) (ci := 12) (v := .ref q_oldest) (C := RX12) (T := TX12) (N := 29) hx hb hts hn_X12_trust_X12 hown hK hP 0 rfl rfl 20 (by decide) (hts _ hw_X12_trust_f53) (fun _ h9 => h9) rfl dX12_trust_60 ?_
    refine lv_iload hx hb dX12_trust_63 (lv_at hl 6 rfl) ?_
    obtain ⟨g_16, hf⟩ := pgd_e hf
    refine va_iald hx hb hK hP 5 1 rfl rfl g_16 dX12_trust_65 ?_
    refine lv_aload_n hx hb dX12_trust_66 rfl (lv_at hl 0 rfl) ?_
    refine va_get (D := D) (ci := 12) (v := .ref q_youngest) (C := RX12) (T := TX12) (N := 29) hx hb hts hn_X12_trust_X12 hown hK hP 0 rfl rfl 21 (by decide) (hts _ hw_X12_trust_f56) (fun _ h9 => h9) rfl dX12_trust_67 ?_
    refine lv_iload_n hx hb dX12_trust_70 rfl (lv_at hl 2 rfl) ?_
    obtain ⟨g_17, hf⟩ := pgd_e hf
    refine va_iald hx hb hK hP 4 1 rfl rfl g_17 dX12_trust_71 ?_
    refine lv_icmp_gt (tgt := 95) hx hb dX12_trust_72 (by decide) (fun c_18 => ?_) (fun c_18 => ?_)
    · have hf := pbr_t c_18 hf
      exact k_X12_trust_95 ⟨hx, hb, hml, hown, hts, hr, hlocks, hX⟩ hA ih x3 x5 x6 x4 s_trace hf _ _ hP hD hS ls (lv_sub hl [0, 1, 2, 3, 5, 6] rfl)
    have hf := pbr_f c_18 hf
    refine lv_aload_n hx hb dX12_trust_75 rfl (lv_at hl 0 rfl) ?_
    refine va_get (D := D) (ci := 12) (v := .ref q_oldest) (C := RX12) (T := TX12) (N := 29) hx hb hts hn_X12_trust_X12 hown hK hP 0 rfl rfl 20 (by decide) (hts _ hw_X12_trust_f53) (fun _ h9 => h9) rfl dX12_trust_76 ?_
    refine lv_iload_n hx hb dX12_trust_79 rfl (lv_at hl 2 rfl) ?_
    refine va_iald hx hb hK hP 5 1 rfl rfl g_17 dX12_trust_80 ?_
    refine lv_aload_n hx hb dX12_trust_81 rfl (lv_at hl 0 rfl) ?_
    refine va_get (D := D) (ci := 12) (v := .ref q_youngest) (C := RX12) (T := TX12) (N := 29) hx hb hts hn_X12_trust_X12 hown hK hP 0 rfl rfl 21 (by decide) (hts _ hw_X12_trust_f56) (fun _ h9 => h9) rfl dX12_trust_82 ?_
    refine lv_iload hx hb dX12_trust_85 (lv_at hl 6 rfl) ?_
    refine va_iald hx hb hK hP 4 1 rfl rfl g_16 dX12_trust_87 ?_
    refine lv_icmp_gt (tgt := 95) hx hb dX12_trust_88 (by decide) (fun c_19 => ?_) (fun c_19 => ?_)
    · have hf := pbr_t c_19 hf
      exact k_X12_trust_95 ⟨hx, hb, hml, hown, hts, hr, hlocks, hX⟩ hA ih x3 x5 x6 x4 s_trace hf _ _ hP hD hS ls (lv_sub hl [0, 1, 2, 3, 5, 6] rfl)
    have hf := pbr_f c_19 hf
    refine lv_iconst (v := (1 : Int32)) hx hb dX12_trust_91 (by decide) ?_
    refine lv_goto (tgt := 96) hx hb dX12_trust_92 (by decide) ?_
    exact k_X12_trust_96 ⟨hx, hb, hml, hown, hts, hr, hlocks, hX⟩ hA ih x3 x5 x6 x4 (1 : Int32) s_trace hf _ _ hP hD hS ls (lv_sub hl [0, 1, 2, 3, 5, 6] rfl)

def f_X12_trust (x1 : Int32) (x2 : Int32) (s_trace : Int64) (s_sheets : Nat → Int32) (s_marsh : Nat → Int32) (s_books : Nat → Int32) (s_youngest : Nat → Int32) (s_oldest : Nat → Int32) : Option ((Int32) × (Int64)) :=
  pcl (f_X12_in x1 (0 : Int32) (5 : Int32)) (fun r_1 => (
  pbr (r_1 = 0)
    (some ((-1000000 : Int32), s_trace))
    (pcl (f_X12_in x2 (0 : Int32) ((s_sheets (0 : Int32).toNatClampNeg) - (1 : Int32))) (fun r_4 => (
    pbr (r_4 = 0)
      (some ((-1000000 : Int32), s_trace))
      (pgd (pin x2 36) (
      plt (((s_marsh x2.toNatClampNeg) + (1 : Int32)) : Int32) (fun x3_8 => (
      f_X12_trust_46 s_sheets s_marsh s_books s_youngest s_oldest x1 x2 FU x3_8 (0 : Int32) (0 : Int32) (0 : Int32) s_trace)))))))))

set_option maxRecDepth 100000 in
set_option maxHeartbeats 4000000 in
theorem ct_X12_trust (l : Launch) (D : va_G) (cA : Nat → ClassId) (x1 : Int32) (x2 : Int32) (a0 : Nat) (q_sheets : Nat) (q_marsh : Nat) (q_books : Nat) (q_youngest : Nat) (q_oldest : Nat) (q_text : Nat) (q_depths : Nat) (q_tune : Nat) (q_far : Nat) (q_told : Nat) (q_years : Nat) (q_months : Nat) (q_ring : Nat) (q_woods : Nat) (q_ends : Nat) (q_wood : Nat) (q_knowns : Nat) (q_known : Nat) (q_weight : Nat) (q_chance : Nat) (q_digs : Nat) (q_draft : Nat) (q_isKept : Nat) (s_trace : Int64) (s_typed : Int32) (s_earliest : Int32) (s_latest : Int32) (s_firstYear : Int32) (s_rings : Int32) (s_sheets : Nat → Int32) (s_marsh : Nat → Int32) (s_books : Nat → Int32) (s_youngest : Nat → Int32) (s_oldest : Nat → Int32) (o_r : Int32) (o_trace : Int64) (hf : f_X12_trust x1 x2 s_trace s_sheets s_marsh s_books s_youngest s_oldest = some (o_r, o_trace)) : CT l yX12_trust wsX12_trust rm_X12_trust D cA [.ref a0, .int x1, .int x2] (w_X12_trust a0 q_sheets q_marsh q_books q_youngest q_oldest q_text q_depths q_tune q_far q_told q_years q_months q_ring q_woods q_ends q_wood q_knowns q_known q_weight q_chance q_digs q_draft q_isKept cA s_trace s_typed s_earliest s_latest s_firstYear s_rings s_sheets s_marsh s_books s_youngest s_oldest) (w_X12_trust a0 q_sheets q_marsh q_books q_youngest q_oldest q_text q_depths q_tune q_far q_told q_years q_months q_ring q_woods q_ends q_wood q_knowns q_known q_weight q_chance q_digs q_draft q_isKept cA o_trace s_typed s_earliest s_latest s_firstYear s_rings s_sheets s_marsh s_books s_youngest s_oldest) (some (.int o_r)) := by
  refine CT.ofW (cc := cX12_trust) (maxL := 7) (ret := (some .int)) (by decide +kernel) rfl (Nat.le_of_ble_eq_true rfl) ?_
  intro p e s m below meth c A C0 hA hP hD ls hl
  have C0 : MX p s m [.ref a0, .int x1, .int x2].toArray meth c cX12_trust 7 wsX12_trust RX12 (some .int) D cA := C0
  have hl : lv_has ls 7 [(0, .ref a0), (1, .int x1), (2, .int x2)] := hl
  obtain ⟨hx, hb, hml, hown, hts, hr, hlocks, hX⟩ := id C0
  have hK := hX.1
  have hN := hX.2
  have hS : va_S A s.heap s.heap [] := va_S.rf
  unfold f_X12_trust at hf
  refine lv_iload_n hx hb dX12_trust_0 rfl (lv_at hl 1 rfl) ?_
  refine lv_iconst (v := (0 : Int32)) hx hb dX12_trust_1 (by decide) ?_
  refine lv_iconst (v := (5 : Int32)) hx hb dX12_trust_2 (by decide) ?_
  obtain ⟨r_1, hc_2, hf⟩ := pcl_e hf
  refine m_callS2 (As := [.int x1, .int (0 : Int32), .int (5 : Int32)]) (rest := []) ⟨hx, hb, hml, hown, hts⟩ hX (ct_X12_in l D cA x1 (0 : Int32) (5 : Int32) r_1 hc_2) (va_cwS 3 hts gX12_trust_X12_in rfl rfl rfl (by decide +kernel) ⟨Nat.le_of_ble_eq_true rfl, Nat.le_of_ble_eq_true rfl⟩) hP hD hS hA [] [0, 1, 2, 3, 4, 5] 6 (by decide) rfl rfl (WS' := (w_X12_trust a0 q_sheets q_marsh q_books q_youngest q_oldest q_text q_depths q_tune q_far q_told q_years q_months q_ring q_woods q_ends q_wood q_knowns q_known q_weight q_chance q_digs q_draft q_isKept cA s_trace s_typed s_earliest s_latest s_firstYear s_rings s_sheets s_marsh s_books s_youngest s_oldest)) (WR := [(a0, .inr (12, [.long s_trace, .ref q_text, .int s_typed, .ref q_depths, .ref q_tune, .ref q_far, .ref q_books, .ref q_told, .int s_earliest, .int s_latest, .ref q_years, .ref q_months, .int s_firstYear, .int s_rings, .ref q_ring, .ref q_woods, .ref q_ends, .ref q_wood, .ref q_sheets, .ref q_marsh, .ref q_oldest, .ref q_youngest, .ref q_knowns, .ref q_known, .ref q_weight, .ref q_chance, .ref q_digs, .ref q_draft, .ref q_isKept])), (q_sheets, .inl (cA 1, 3, .inl s_sheets)), (q_marsh, .inl (cA 1, 36, .inl s_marsh)), (q_books, .inl (cA 1, 3, .inl s_books)), (q_youngest, .inl (cA 1, 36, .inl s_youngest)), (q_oldest, .inl (cA 1, 36, .inl s_oldest))]) rfl rfl rfl rfl (by decide) (by decide) rfl hl.1 rfl (st' := [.int r_1]) rfl (Nat.le_of_ble_eq_true rfl) ⟨Nat.zero_le _, Nat.zero_le _⟩ dX12_trust_3 (fun H locs hP hD hS => ?_)
  refine lv_if_eq (tgt := 25) hx hb dX12_trust_6 (by decide) (fun c_3 => ?_) (fun c_3 => ?_)
  · have hf := pbr_t c_3 hf
    refine lv_ldc (v := (-1000000 : Int32)) hx hb hown (hts _ hw_X12_trust_c122) dX12_trust_25 ?_
    obtain ⟨rfl, rfl⟩ := pe2 hf
    exact m_iret hx hb hr hlocks hP hS dX12_trust_27
  have hf := pbr_f c_3 hf
  refine lv_iload_n hx hb dX12_trust_9 rfl (lv_at hl 2 rfl) ?_
  refine lv_iconst (v := (0 : Int32)) hx hb dX12_trust_10 (by decide) ?_
  refine lv_aload_n hx hb dX12_trust_11 rfl (lv_at hl 0 rfl) ?_
  refine va_get (D := D) (ci := 12) (v := .ref q_sheets) (C := RX12) (T := TX12) (N := 29) hx hb hts hn_X12_trust_X12 hown hK hP 0 rfl rfl 18 (by decide) (hts _ hw_X12_trust_f47) (fun _ h9 => h9) rfl dX12_trust_12 ?_
  refine lv_iconst (v := (0 : Int32)) hx hb dX12_trust_15 (by decide) ?_
  refine va_iald hx hb hK hP 1 1 rfl rfl (show pin (0 : Int32) 3 by decide +kernel) dX12_trust_16 ?_
  refine lv_iconst (v := (1 : Int32)) hx hb dX12_trust_17 (by decide) ?_
  refine lv_isub hx hb dX12_trust_18 ?_
  obtain ⟨r_4, hc_5, hf⟩ := pcl_e hf
  refine m_callS2 (As := [.int x2, .int (0 : Int32), .int ((s_sheets (0 : Int32).toNatClampNeg) - (1 : Int32))]) (rest := []) ⟨hx, hb, hml, hown, hts⟩ hX (ct_X12_in l D cA x2 (0 : Int32) ((s_sheets (0 : Int32).toNatClampNeg) - (1 : Int32)) r_4 hc_5) (va_cwS 3 hts gX12_trust_X12_in rfl rfl rfl (by decide +kernel) ⟨Nat.le_of_ble_eq_true rfl, Nat.le_of_ble_eq_true rfl⟩) hP hD hS hA [] [0, 1, 2, 3, 4, 5] 6 (by decide) rfl rfl (WS' := (w_X12_trust a0 q_sheets q_marsh q_books q_youngest q_oldest q_text q_depths q_tune q_far q_told q_years q_months q_ring q_woods q_ends q_wood q_knowns q_known q_weight q_chance q_digs q_draft q_isKept cA s_trace s_typed s_earliest s_latest s_firstYear s_rings s_sheets s_marsh s_books s_youngest s_oldest)) (WR := [(a0, .inr (12, [.long s_trace, .ref q_text, .int s_typed, .ref q_depths, .ref q_tune, .ref q_far, .ref q_books, .ref q_told, .int s_earliest, .int s_latest, .ref q_years, .ref q_months, .int s_firstYear, .int s_rings, .ref q_ring, .ref q_woods, .ref q_ends, .ref q_wood, .ref q_sheets, .ref q_marsh, .ref q_oldest, .ref q_youngest, .ref q_knowns, .ref q_known, .ref q_weight, .ref q_chance, .ref q_digs, .ref q_draft, .ref q_isKept])), (q_sheets, .inl (cA 1, 3, .inl s_sheets)), (q_marsh, .inl (cA 1, 36, .inl s_marsh)), (q_books, .inl (cA 1, 3, .inl s_books)), (q_youngest, .inl (cA 1, 36, .inl s_youngest)), (q_oldest, .inl (cA 1, 36, .inl s_oldest))]) rfl rfl rfl rfl (by decide) (by decide) rfl hl.1 rfl (st' := [.int r_4]) rfl (Nat.le_of_ble_eq_true rfl) ⟨Nat.zero_le _, Nat.zero_le _⟩ dX12_trust_19 (fun H locs hP hD hS => ?_)
  refine lv_if_ne (tgt := 28) hx hb dX12_trust_22 (by decide) (fun c_6 => ?_) (fun c_6 => ?_)
  · have hf := pbr_f c_6 hf
    refine lv_aload_n hx hb dX12_trust_28 rfl (lv_at hl 0 rfl) ?_
    refine va_get (D := D) (ci := 12) (v := .ref q_marsh) (C := RX12) (T := TX12) (N := 29) hx hb hts hn_X12_trust_X12 hown hK hP 0 rfl rfl 19 (by decide) (hts _ hw_X12_trust_f50) (fun _ h9 => h9) rfl dX12_trust_29 ?_
    refine lv_iload_n hx hb dX12_trust_32 rfl (lv_at hl 2 rfl) ?_
    obtain ⟨g_7, hf⟩ := pgd_e hf
    refine va_iald hx hb hK hP 2 1 rfl rfl g_7 dX12_trust_33 ?_
    refine lv_iconst (v := (1 : Int32)) hx hb dX12_trust_34 (by decide) ?_
    refine lv_iadd hx hb dX12_trust_35 ?_
    refine lv_topi (fun x3_8 ex3_8 => ?_)
    have hf := plt_e ex3_8 hf
    refine lv_istore_n (lv' := [(3, .int x3_8), (0, .ref a0), (1, .int x1), (2, .int x2)]) hx hb dX12_trust_36 rfl hl (by decide) rfl (fun ls hl => ?_)
    refine lv_iconst (v := (0 : Int32)) hx hb dX12_trust_37 (by decide) ?_
    refine lv_istore (lv' := [(4, .int (0 : Int32)), (3, .int x3_8), (0, .ref a0), (1, .int x1), (2, .int x2)]) hx hb dX12_trust_38 hl (by decide) rfl (fun ls hl => ?_)
    refine lv_iconst (v := (0 : Int32)) hx hb dX12_trust_40 (by decide) ?_
    refine lv_istore (lv' := [(5, .int (0 : Int32)), (4, .int (0 : Int32)), (3, .int x3_8), (0, .ref a0), (1, .int x1), (2, .int x2)]) hx hb dX12_trust_41 hl (by decide) rfl (fun ls hl => ?_)
    refine lv_iconst (v := (0 : Int32)) hx hb dX12_trust_43 (by decide) ?_
    refine lv_istore (lv' := [(6, .int (0 : Int32)), (5, .int (0 : Int32)), (4, .int (0 : Int32)), (3, .int x3_8), (0, .ref a0), (1, .int x1), (2, .int x2)]) hx hb dX12_trust_44 hl (by decide) rfl (fun ls hl => ?_)
    exact k_X12_trust_46 C0 hA FU x3_8 (0 : Int32) (0 : Int32) (0 : Int32) s_trace hf _ _ hP hD hS ls (lv_sub hl [4, 5, 6, 3, 2, 1, 0] rfl)
  have hf := pbr_t c_6 hf
  refine lv_ldc (v := (-1000000 : Int32)) hx hb hown (hts _ hw_X12_trust_c122) dX12_trust_25 ?_
  obtain ⟨rfl, rfl⟩ := pe2 hf
  exact m_iret hx hb hr hlocks hP hS dX12_trust_27
