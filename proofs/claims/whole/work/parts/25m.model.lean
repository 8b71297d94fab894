/-! ===== OrphanWaveModel.slips()I ===== -/
abbrev rm_X12_slips : Room := { frames := 0, cells := 0, slots := 0, locals := 0 }
abbrev w_X12_slips (a0 : Nat) (q_sheets : Nat) (q_oldest : Nat) (q_youngest : Nat) (q_marsh : Nat) (q_text : Nat) (q_depths : Nat) (q_tune : Nat) (q_far : Nat) (q_books : Nat) (q_told : Nat) (q_years : Nat) (q_months : Nat) (q_ring : Nat) (q_woods : Nat) (q_ends : Nat) (q_wood : Nat) (q_knowns : Nat) (q_known : Nat) (q_weight : Nat) (q_chance : Nat) (q_digs : Nat) (q_draft : Nat) (q_isKept : Nat) (cA : Nat → ClassId) (s_trace : Int64) (s_typed : Int32) (s_earliest : Int32) (s_latest : Int32) (s_firstYear : Int32) (s_rings : Int32) (s_sheets : Nat → Int32) (s_oldest : Nat → Int32) (s_youngest : Nat → Int32) (s_marsh : Nat → Int32) : va_W := [(a0, .inr (12, [.long s_trace, .ref q_text, .int s_typed, .ref q_depths, .ref q_tune, .ref q_far, .ref q_books, .ref q_told, .int s_earliest, .int s_latest, .ref q_years, .ref q_months, .int s_firstYear, .int s_rings, .ref q_ring, .ref q_woods, .ref q_ends, .ref q_wood, .ref q_sheets, .ref q_marsh, .ref q_oldest, .ref q_youngest, .ref q_knowns, .ref q_known, .ref q_weight, .ref q_chance, .ref q_digs, .ref q_draft, .ref q_isKept])), (q_sheets, .inl (cA 1, 3, .inl s_sheets)), (q_oldest, .inl (cA 1, 36, .inl s_oldest)), (q_youngest, .inl (cA 1, 36, .inl s_youngest)), (q_marsh, .inl (cA 1, 36, .inl s_marsh))]
theorem hn_X12_slips_X12 : ∀ w ∈ u_ws RX12 TX12 29, w ∈ wsX12_slips := by decide +kernel
theorem hw_X12_slips_c107 : Cond.constant RX12 107 (1000000) ∈ wsX12_slips := by decide +kernel
theorem hw_X12_slips_f47 : Cond.fieldLink RX12 47 "OrphanWaveModel" "sheets" "[I" ∈ wsX12_slips := by decide +kernel
theorem hw_X12_slips_f53 : Cond.fieldLink RX12 53 "OrphanWaveModel" "oldest" "[I" ∈ wsX12_slips := by decide +kernel
theorem hw_X12_slips_f56 : Cond.fieldLink RX12 56 "OrphanWaveModel" "youngest" "[I" ∈ wsX12_slips := by decide +kernel
theorem hw_X12_slips_f50 : Cond.fieldLink RX12 50 "OrphanWaveModel" "marsh" "[I" ∈ wsX12_slips := by decide +kernel

def f_X12_slips_148 (r105 : (Int32) → (Int32) → Option ((Int32))) (r118 : (Int32) → (Int32) → (Int32) → (Int32) → Option ((Int32))) (s_sheets : Nat → Int32) (s_oldest : Nat → Int32) (s_youngest : Nat → Int32) (s_marsh : Nat → Int32) (x2 : Int32) (x4 : Int32) (x6 : Int32) (z0 : Int32) (z1 : Int32) : Option ((Int32)) :=
  plt ((z0 + z1) : Int32) (fun x5_1 => (
  plt (x6 + (1 : Int32) : Int32) (fun x6_2 => (
  r118 x2 x4 x5_1 x6_2))))

set_option maxRecDepth 100000 in
set_option maxHeartbeats 4000000 in
theorem k_X12_slips_148 {p : Program} {l : Launch} {e : Env} {s : State} {m : MethodId} {args : Array Value} {below : List Frame} {meth : Method} {c : Code} {A : Nat → Prop} {D : va_G} {cA : Nat → ClassId} (C0 : MX p s m args meth c cX12_slips 7 wsX12_slips RX12 (some .int) D cA) (hA : ∀ q, s.heap.size ≤ q → A q) {a0 : Nat} {q_sheets : Nat} {q_oldest : Nat} {q_youngest : Nat} {q_marsh : Nat} {q_text : Nat} {q_depths : Nat} {q_tune : Nat} {q_far : Nat} {q_books : Nat} {q_told : Nat} {q_years : Nat} {q_months : Nat} {q_ring : Nat} {q_woods : Nat} {q_ends : Nat} {q_wood : Nat} {q_knowns : Nat} {q_known : Nat} {q_weight : Nat} {q_chance : Nat} {q_digs : Nat} {q_draft : Nat} {q_isKept : Nat} {s_trace : Int64} {s_typed : Int32} {s_earliest : Int32} {s_latest : Int32} {s_firstYear : Int32} {s_rings : Int32} {s_sheets : Nat → Int32} {s_oldest : Nat → Int32} {s_youngest : Nat → Int32} {s_marsh : Nat → Int32} {o_r : Int32} {r105 : (Int32) → (Int32) → Option ((Int32))} (hr105 : ∀ (x2 : Int32) (x4 : Int32), r105 x2 x4 = some o_r → ∀ (H : Heap) (locs : List Loc), va_P D vwCl (w_X12_slips a0 q_sheets q_oldest q_youngest q_marsh q_text q_depths q_tune q_far q_books q_told q_years q_months q_ring q_woods q_ends q_wood q_knowns q_known q_weight q_chance q_digs q_draft q_isKept cA s_trace s_typed s_earliest s_latest s_firstYear s_rings s_sheets s_oldest s_youngest s_marsh) H → va_D A (w_X12_slips a0 q_sheets q_oldest q_youngest q_marsh q_text q_depths q_tune q_far q_books q_told q_years q_months q_ring q_woods q_ends q_wood q_knowns q_known q_weight q_chance q_digs q_draft q_isKept cA s_trace s_typed s_earliest s_latest s_firstYear s_rings s_sheets s_oldest s_youngest s_marsh) → va_S A s.heap H locs → ∀ ls : Array Slot, lv_has ls 7 [(0, .ref a0), (2, .int x2), (4, .int x4)] → W p l e rm_X12_slips s m args below meth c H locs 0 0 (MQ below (CQ D (some (.int o_r)) (w_X12_slips a0 q_sheets q_oldest q_youngest q_marsh q_text q_depths q_tune q_far q_books q_told q_years q_months q_ring q_woods q_ends q_wood q_knowns q_known q_weight q_chance q_digs q_draft q_isKept cA s_trace s_typed s_earliest s_latest s_firstYear s_rings s_sheets s_oldest s_youngest s_marsh) A) args s 0 0 A) (F0 m 105 ls [])) {r118 : (Int32) → (Int32) → (Int32) → (Int32) → Option ((Int32))} (hr118 : ∀ (x2 : Int32) (x4 : Int32) (x5 : Int32) (x6 : Int32), r118 x2 x4 x5 x6 = some o_r → ∀ (H : Heap) (locs : List Loc), va_P D vwCl (w_X12_slips a0 q_sheets q_oldest q_youngest q_marsh q_text q_depths q_tune q_far q_books q_told q_years q_months q_ring q_woods q_ends q_wood q_knowns q_known q_weight q_chance q_digs q_draft q_isKept cA s_trace s_typed s_earliest s_latest s_firstYear s_rings s_sheets s_oldest s_youngest s_marsh) H → va_D A (w_X12_slips a0 q_sheets q_oldest q_youngest q_marsh q_text q_depths q_tune q_far q_books q_told q_years q_months q_ring q_woods q_ends q_wood q_knowns q_known q_weight q_chance q_digs q_draft q_isKept cA s_trace s_typed s_earliest s_latest s_firstYear s_rings s_sheets s_oldest s_youngest s_marsh) → va_S A s.heap H locs → ∀ ls : Array Slot, lv_has ls 7 [(0, .ref a0), (2, .int x2), (4, .int x4), (5, .int x5), (6, .int x6)] → W p l e rm_X12_slips s m args below meth c H locs 0 0 (MQ below (CQ D (some (.int o_r)) (w_X12_slips a0 q_sheets q_oldest q_youngest q_marsh q_text q_depths q_tune q_far q_books q_told q_years q_months q_ring q_woods q_ends q_wood q_knowns q_known q_weight q_chance q_digs q_draft q_isKept cA s_trace s_typed s_earliest s_latest s_firstYear s_rings s_sheets s_oldest s_youngest s_marsh) A) args s 0 0 A) (F0 m 118 ls [])) : ∀ (x2 : Int32) (x4 : Int32) (x6 : Int32) (z0 : Int32) (z1 : Int32), f_X12_slips_148 r105 r118 s_sheets s_oldest s_youngest s_marsh x2 x4 x6 z0 z1 = some o_r → ∀ (H : Heap) (locs : List Loc), va_P D vwCl (w_X12_slips a0 q_sheets q_oldest q_youngest q_marsh q_text q_depths q_tune q_far q_books q_told q_years q_months q_ring q_woods q_ends q_wood q_knowns q_known q_weight q_chance q_digs q_draft q_isKept cA s_trace s_typed s_earliest s_latest s_firstYear s_rings s_sheets s_oldest s_youngest s_marsh) H → va_D A (w_X12_slips a0 q_sheets q_oldest q_youngest q_marsh q_text q_depths q_tune q_far q_books q_told q_years q_months q_ring q_woods q_ends q_wood q_knowns q_known q_weight q_chance q_digs q_draft q_isKept cA s_trace s_typed s_earliest s_latest s_firstYear s_rings s_sheets s_oldest s_youngest s_marsh) → va_S A s.heap H locs → ∀ ls : Array Slot, lv_has ls 7 [(0, .ref a0), (2, .int x2), (4, .int x4), (6, .int x6)] → W p l e rm_X12_slips s m args below meth c H locs 0 0 (MQ below (CQ D (some (.int o_r)) (w_X12_slips a0 q_sheets q_oldest q_youngest q_marsh q_text q_depths q_tune q_far q_books q_told q_years q_months q_ring q_woods q_ends q_wood q_knowns q_known q_weight q_chance q_digs q_draft q_isKept cA s_trace s_typed s_earliest s_latest s_firstYear s_rings s_sheets s_oldest s_youngest s_marsh) A) args s 0 0 A) (F0 m 148 ls [.int z1, .int z0]) := by
  obtain ⟨hx, hb, hml, hown, hts, hr, hlocks, hX⟩ := C0
  have hK := hX.1
  have hN := hX.2
  intro x2 x4 x6 z0 z1 hf H locs hP hD hS ls hl
  unfold f_X12_slips_148 at hf
  refine lv_iadd hx hb dX12_slips_148 ?_
  refine lv_topi (fun x5_1 ex5_1 => ?_)
  have hf := plt_e ex5_1 hf
  refine lv_istore (lv' := [(5, .int x5_1), (0, .ref a0), (2, .int x2), (4, .int x4), (6, .int x6)]) hx hb dX12_slips_149 hl (by decide) rfl (fun ls hl => ?_)
  obtain ⟨x6_2, ex6_2⟩ : ∃ z : Int32, z = x6 + (1 : Int32) := ⟨_, rfl⟩
  have hf := plt_e ex6_2 hf
  refine lv_iinc (v := x6_2) (lv' := [(6, .int x6_2), (5, .int x5_1), (0, .ref a0), (2, .int x2), (4, .int x4)]) hx hb dX12_slips_151 hl (k := 4) rfl (by rw [ex6_2]; rfl) (by decide) rfl (fun ls hl => ?_)
  refine lv_goto (tgt := 118) hx hb dX12_slips_154 (by decide) ?_
  exact hr118 x2 x4 x5_1 x6_2 hf _ _ hP hD hS ls (lv_sub hl [2, 3, 4, 1, 0] rfl)

def f_X12_slips_118 (r105 : (Int32) → (Int32) → Option ((Int32))) (s_sheets : Nat → Int32) (s_oldest : Nat → Int32) (s_youngest : Nat → Int32) (s_marsh : Nat → Int32) : Nat → (Int32) → (Int32) → (Int32) → (Int32) → Option ((Int32))
  | 0, _, _, _, _ => none
  | k + 1, x2, x4, x5, x6 =>
    pbr ((s_sheets (0 : Int32).toNatClampNeg) ≤ x6)
      (pbr (x5 ≤ x2)
        (plt (x4 + (1 : Int32) : Int32) (fun x4_3 => (
        r105 x2 x4_3)))
        (plt (x4 + (1 : Int32) : Int32) (fun x4_4 => (
        r105 x5 x4_4))))
      (pgd (pin x6 36) (
      pbr ((s_marsh x6.toNatClampNeg) = x4)
        (f_X12_slips_148 r105 (f_X12_slips_118 r105 s_sheets s_oldest s_youngest s_marsh k) s_sheets s_oldest s_youngest s_marsh x2 x4 x6 x5 (1 : Int32))
        (f_X12_slips_148 r105 (f_X12_slips_118 r105 s_sheets s_oldest s_youngest s_marsh k) s_sheets s_oldest s_youngest s_marsh x2 x4 x6 x5 (0 : Int32))))

set_option maxRecDepth 100000 in
set_option maxHeartbeats 4000000 in
theorem k_X12_slips_118 {p : Program} {l : Launch} {e : Env} {s : State} {m : MethodId} {args : Array Value} {below : List Frame} {meth : Method} {c : Code} {A : Nat → Prop} {D : va_G} {cA : Nat → ClassId} (C0 : MX p s m args meth c cX12_slips 7 wsX12_slips RX12 (some .int) D cA) (hA : ∀ q, s.heap.size ≤ q → A q) {a0 : Nat} {q_sheets : Nat} {q_oldest : Nat} {q_youngest : Nat} {q_marsh : Nat} {q_text : Nat} {q_depths : Nat} {q_tune : Nat} {q_far : Nat} {q_books : Nat} {q_told : Nat} {q_years : Nat} {q_months : Nat} {q_ring : Nat} {q_woods : Nat} {q_ends : Nat} {q_wood : Nat} {q_knowns : Nat} {q_known : Nat} {q_weight : Nat} {q_chance : Nat} {q_digs : Nat} {q_draft : Nat} {q_isKept : Nat} {s_trace : Int64} {s_typed : Int32} {s_earliest : Int32} {s_latest : Int32} {s_firstYear : Int32} {s_rings : Int32} {s_sheets : Nat → Int32} {s_oldest : Nat → Int32} {s_youngest : Nat → Int32} {s_marsh : Nat → Int32} {o_r : Int32} {r105 : (Int32) → (Int32) → Option ((Int32))} (hr105 : ∀ (x2 : Int32) (x4 : Int32), r105 x2 x4 = some o_r → ∀ (H : Heap) (locs : List Loc), va_P D vwCl (w_X12_slips a0 q_sheets q_oldest q_youngest q_marsh q_text q_depths q_tune q_far q_books q_told q_years q_months q_ring q_woods q_ends q_wood q_knowns q_known q_weight q_chance q_digs q_draft q_isKept cA s_trace s_typed s_earliest s_latest s_firstYear s_rings s_sheets s_oldest s_youngest s_marsh) H → va_D A (w_X12_slips a0 q_sheets q_oldest q_youngest q_marsh q_text q_depths q_tune q_far q_books q_told q_years q_months q_ring q_woods q_ends q_wood q_knowns q_known q_weight q_chance q_digs q_draft q_isKept cA s_trace s_typed s_earliest s_latest s_firstYear s_rings s_sheets s_oldest s_youngest s_marsh) → va_S A s.heap H locs → ∀ ls : Array Slot, lv_has ls 7 [(0, .ref a0), (2, .int x2), (4, .int x4)] → W p l e rm_X12_slips s m args below meth c H locs 0 0 (MQ below (CQ D (some (.int o_r)) (w_X12_slips a0 q_sheets q_oldest q_youngest q_marsh q_text q_depths q_tune q_far q_books q_told q_years q_months q_ring q_woods q_ends q_wood q_knowns q_known q_weight q_chance q_digs q_draft q_isKept cA s_trace s_typed s_earliest s_latest s_firstYear s_rings s_sheets s_oldest s_youngest s_marsh) A) args s 0 0 A) (F0 m 105 ls [])) : ∀ (k : Nat) (x2 : Int32) (x4 : Int32) (x5 : Int32) (x6 : Int32), f_X12_slips_118 r105 s_sheets s_oldest s_youngest s_marsh k x2 x4 x5 x6 = some o_r → ∀ (H : Heap) (locs : List Loc), va_P D vwCl (w_X12_slips a0 q_sheets q_oldest q_youngest q_marsh q_text q_depths q_tune q_far q_books q_told q_years q_months q_ring q_woods q_ends q_wood q_knowns q_known q_weight q_chance q_digs q_draft q_isKept cA s_trace s_typed s_earliest s_latest s_firstYear s_rings s_sheets s_oldest s_youngest s_marsh) H → va_D A (w_X12_slips a0 q_sheets q_oldest q_youngest q_marsh q_text q_depths q_tune q_far q_books q_told q_years q_months q_ring q_woods q_ends q_wood q_knowns q_known q_weight q_chance q_digs q_draft q_isKept cA s_trace s_typed s_earliest s_latest s_firstYear s_rings s_sheets s_oldest s_youngest s_marsh) → va_S A s.heap H locs → ∀ ls : Array Slot, lv_has ls 7 [(0, .ref a0), (2, .int x2), (4, .int x4), (5, .int x5), (6, .int x6)] → W p l e rm_X12_slips s m args below meth c H locs 0 0 (MQ below (CQ D (some (.int o_r)) (w_X12_slips a0 q_sheets q_oldest q_youngest q_marsh q_text q_depths q_tune q_far q_books q_told q_years q_months q_ring q_woods q_ends q_wood q_knowns q_known q_weight q_chance q_digs q_draft q_isKept cA s_trace s_typed s_earliest s_latest s_firstYear s_rings s_sheets s_oldest s_youngest s_marsh) A) args s 0 0 A) (F0 m 118 ls []) := by
  obtain ⟨hx, hb, hml, hown, hts, hr, hlocks, hX⟩ := C0
  have hK := hX.1
  have hN := hX.2
  intro k
  induction k with
  | zero =>
    intro x2 x4 x5 x6 hf
    cases hf
  | succ k ih =>
    intro x2 x4 x5 x6 hf H locs hP hD hS ls hl
    rw [f_X12_slips_118] at hf
    refine lv_iload hx hb dX12_slips_118 (lv_at hl 4 rfl) ?_
    refine lv_aload_n hx hb dX12_slips_120 rfl (lv_at hl 0 rfl) ?_
    refine va_get (D := D) (ci := 12) (v := .ref q_sheets) (C := RX12) (T := TX12) (N := 29) hx hb hts hn_X12_slips_X12 hown hK hP 0 rfl rfl 18 (by decide) (hts _ hw_X12_slips_f47) (fun _ h9 => h9) rfl dX12_slips_121 ?_
    refine lv_iconst (v := (0 : Int32)) hx hb dX12_slips_124 (by decide) ?_
    refine va_iald hx hb hK hP 1 1 rfl rfl (show pin (0 : Int32) 3 by decide +kernel) dX12_slips_125 ?_
    refine lv_icmp_ge (tgt := 157) hx hb dX12_slips_126 (by decide) (fun c_1 => ?_) (fun c_1 => ?_)
    · have hf := pbr_t c_1 hf
      refine lv_iload hx hb dX12_slips_157 (lv_at hl 3 rfl) ?_
      refine lv_iload_n hx hb dX12_slips_159 rfl (lv_at hl 1 rfl) ?_
      refine lv_icmp_le (tgt := 168) hx hb dX12_slips_160 (by decide) (fun c_2 => ?_) (fun c_2 => ?_)
      · have hf := pbr_t c_2 hf
        refine lv_iload_n hx hb dX12_slips_168 rfl (lv_at hl 1 rfl) ?_
        refine lv_istore_n (lv' := [(2, .int x2), (0, .ref a0), (4, .int x4), (5, .int x5), (6, .int x6)]) hx hb dX12_slips_169 rfl hl (by decide) rfl (fun ls hl => ?_)
        obtain ⟨x4_3, ex4_3⟩ : ∃ z : Int32, z = x4 + (1 : Int32) := ⟨_, rfl⟩
        have hf := plt_e ex4_3 hf
        refine lv_iinc (v := x4_3) (lv' := [(4, .int x4_3), (2, .int x2), (0, .ref a0), (5, .int x5), (6, .int x6)]) hx hb dX12_slips_170 hl (k := 2) rfl (by rw [ex4_3]; rfl) (by decide) rfl (fun ls hl => ?_)
        refine lv_goto (tgt := 105) hx hb dX12_slips_173 (by decide) ?_
        exact hr105 x2 x4_3 hf _ _ hP hD hS ls (lv_sub hl [2, 1, 0] rfl)
      have hf := pbr_f c_2 hf
      refine lv_iload hx hb dX12_slips_163 (lv_at hl 3 rfl) ?_
      refine lv_goto (tgt := 169) hx hb dX12_slips_165 (by decide) ?_
      refine lv_istore_n (lv' := [(2, .int x5), (0, .ref a0), (4, .int x4), (5, .int x5), (6, .int x6)]) hx hb dX12_slips_169 rfl hl (by decide) rfl (fun ls hl => ?_)
      obtain ⟨x4_4, ex4_4⟩ : ∃ z : Int32, z = x4 + (1 : Int32) := ⟨_, rfl⟩
      have hf := plt_e ex4_4 hf
      refine lv_iinc (v := x4_4) (lv' := [(4, .int x4_4), (2, .int x5), (0, .ref a0), (5, .int x5), (6, .int x6)]) hx hb dX12_slips_170 hl (k := 2) rfl (by rw [ex4_4]; rfl) (by decide) rfl (fun ls hl => ?_)
      refine lv_goto (tgt := 105) hx hb dX12_slips_173 (by decide) ?_
      exact hr105 x5 x4_4 hf _ _ hP hD hS ls (lv_sub hl [2, 1, 0] rfl)
    have hf := pbr_f c_1 hf
    refine lv_iload hx hb dX12_slips_129 (lv_at hl 3 rfl) ?_
    refine lv_aload_n hx hb dX12_slips_131 rfl (lv_at hl 0 rfl) ?_
    refine va_get (D := D) (ci := 12) (v := .ref q_marsh) (C := RX12) (T := TX12) (N := 29) hx hb hts hn_X12_slips_X12 hown hK hP 0 rfl rfl 19 (by decide) (hts _ hw_X12_slips_f50) (fun _ h9 => h9) rfl dX12_slips_132 ?_
    refine lv_iload hx hb dX12_slips_135 (lv_at hl 4 rfl) ?_
    obtain ⟨g_5, hf⟩ := pgd_e hf
    refine va_iald hx hb hK hP 4 1 rfl rfl g_5 dX12_slips_137 ?_
    refine lv_iload hx hb dX12_slips_138 (lv_at hl 2 rfl) ?_
    refine lv_icmp_ne (tgt := 147) hx hb dX12_slips_140 (by decide) (fun c_6 => ?_) (fun c_6 => ?_)
    · have hf := pbr_f c_6 hf
      refine lv_iconst (v := (0 : Int32)) hx hb dX12_slips_147 (by decide) ?_
      exact k_X12_slips_148 ⟨hx, hb, hml, hown, hts, hr, hlocks, hX⟩ hA hr105 ih x2 x4 x6 x5 (0 : Int32) hf _ _ hP hD hS ls (lv_sub hl [0, 1, 2, 4] rfl)
    have hf := pbr_t c_6 hf
    refine lv_iconst (v := (1 : Int32)) hx hb dX12_slips_143 (by decide) ?_
    refine lv_goto (tgt := 148) hx hb dX12_slips_144 (by decide) ?_
    exact k_X12_slips_148 ⟨hx, hb, hml, hown, hts, hr, hlocks, hX⟩ hA hr105 ih x2 x4 x6 x5 (1 : Int32) hf _ _ hP hD hS ls (lv_sub hl [0, 1, 2, 4] rfl)

def f_X12_slips_105 (s_sheets : Nat → Int32) (s_oldest : Nat → Int32) (s_youngest : Nat → Int32) (s_marsh : Nat → Int32) : Nat → (Int32) → (Int32) → Option ((Int32))
  | 0, _, _ => none
  | k + 1, x2, x4 =>
    pbr ((6 : Int32) ≤ x4)
      (some (x2))
      (f_X12_slips_118 (f_X12_slips_105 s_sheets s_oldest s_youngest s_marsh k) s_sheets s_oldest s_youngest s_marsh FU x2 x4 (0 : Int32) (0 : Int32))

set_option maxRecDepth 100000 in
set_option maxHeartbeats 4000000 in
theorem k_X12_slips_105 {p : Program} {l : Launch} {e : Env} {s : State} {m : MethodId} {args : Array Value} {below : List Frame} {meth : Method} {c : Code} {A : Nat → Prop} {D : va_G} {cA : Nat → ClassId} (C0 : MX p s m args meth c cX12_slips 7 wsX12_slips RX12 (some .int) D cA) (hA : ∀ q, s.heap.size ≤ q → A q) {a0 : Nat} {q_sheets : Nat} {q_oldest : Nat} {q_youngest : Nat} {q_marsh : Nat} {q_text : Nat} {q_depths : Nat} {q_tune : Nat} {q_far : Nat} {q_books : Nat} {q_told : Nat} {q_years : Nat} {q_months : Nat} {q_ring : Nat} {q_woods : Nat} {q_ends : Nat} {q_wood : Nat} {q_knowns : Nat} {q_known : Nat} {q_weight : Nat} {q_chance : Nat} {q_digs : Nat} {q_draft : Nat} {q_isKept : Nat} {s_trace : Int64} {s_typed : Int32} {s_earliest : Int32} {s_latest : Int32} {s_firstYear : Int32} {s_rings : Int32} {s_sheets : Nat → Int32} {s_oldest : Nat → Int32} {s_youngest : Nat → Int32} {s_marsh : Nat → Int32} {o_r : Int32} : ∀ (k : Nat) (x2 : Int32) (x4 : Int32), f_X12_slips_105 s_sheets s_oldest s_youngest s_marsh k x2 x4 = some o_r → ∀ (H : Heap) (locs : List Loc), va_P D vwCl (w_X12_slips a0 q_sheets q_oldest q_youngest q_marsh q_text q_depths q_tune q_far q_books q_told q_years q_months q_ring q_woods q_ends q_wood q_knowns q_known q_weight q_chance q_digs q_draft q_isKept cA s_trace s_typed s_earliest s_latest s_firstYear s_rings s_sheets s_oldest s_youngest s_marsh) H → va_D A (w_X12_slips a0 q_sheets q_oldest q_youngest q_marsh q_text q_depths q_tune q_far q_books q_told q_years q_months q_ring q_woods q_ends q_wood q_knowns q_known q_weight q_chance q_digs q_draft q_isKept cA s_trace s_typed s_earliest s_latest s_firstYear s_rings s_sheets s_oldest s_youngest s_marsh) → va_S A s.heap H locs → ∀ ls : Array Slot, lv_has ls 7 [(0, .ref a0), (2, .int x2), (4, .int x4)] → W p l e rm_X12_slips s m args below meth c H locs 0 0 (MQ below (CQ D (some (.int o_r)) (w_X12_slips a0 q_sheets q_oldest q_youngest q_marsh q_text q_depths q_tune q_far q_books q_told q_years q_months q_ring q_woods q_ends q_wood q_knowns q_known q_weight q_chance q_digs q_draft q_isKept cA s_trace s_typed s_earliest s_latest s_firstYear s_rings s_sheets s_oldest s_youngest s_marsh) A) args s 0 0 A) (F0 m 105 ls []) := by
  obtain ⟨hx, hb, hml, hown, hts, hr, hlocks, hX⟩ := C0
  have hK := hX.1
  have hN := hX.2
  intro k
  induction k with
  | zero =>
    intro x2 x4 hf
    cases hf
  | succ k ih =>
    intro x2 x4 hf H locs hP hD hS ls hl
    rw [f_X12_slips_105] at hf
    refine lv_iload hx hb dX12_slips_105 (lv_at hl 2 rfl) ?_
    refine lv_bipush (v := (6 : Int32)) hx hb dX12_slips_107 (by decide) ?_
    refine lv_icmp_ge (tgt := 176) hx hb dX12_slips_109 (by decide) (fun c_1 => ?_) (fun c_1 => ?_)
    · have hf := pbr_t c_1 hf
      refine lv_iload_n hx hb dX12_slips_176 rfl (lv_at hl 1 rfl) ?_
      obtain rfl := pe1 hf
      exact m_iret hx hb hr hlocks hP hS dX12_slips_177
    have hf := pbr_f c_1 hf
    refine lv_iconst (v := (0 : Int32)) hx hb dX12_slips_112 (by decide) ?_
    refine lv_istore (lv' := [(5, .int (0 : Int32)), (0, .ref a0), (2, .int x2), (4, .int x4)]) hx hb dX12_slips_113 hl (by decide) rfl (fun ls hl => ?_)
    refine lv_iconst (v := (0 : Int32)) hx hb dX12_slips_115 (by decide) ?_
    refine lv_istore (lv' := [(6, .int (0 : Int32)), (5, .int (0 : Int32)), (0, .ref a0), (2, .int x2), (4, .int x4)]) hx hb dX12_slips_116 hl (by decide) rfl (fun ls hl => ?_)
    exact k_X12_slips_118 ⟨hx, hb, hml, hown, hts, hr, hlocks, hX⟩ hA ih FU x2 x4 (0 : Int32) (0 : Int32) hf _ _ hP hD hS ls (lv_sub hl [2, 3, 4, 1, 0] rfl)

def f_X12_slips_83 (r6 : (Int32) → (Int32) → (Int32) → Option ((Int32))) (s_sheets : Nat → Int32) (s_oldest : Nat → Int32) (s_youngest : Nat → Int32) (s_marsh : Nat → Int32) (x2 : Int32) (x4 : Int32) (z0 : Int32) : Option ((Int32)) :=
  pbr (z0 = 0)
    (plt ((x2 + (0 : Int32)) : Int32) (fun x2_2 => (
    r6 x4 x2_2 z0)))
    (plt ((x2 + (1 : Int32)) : Int32) (fun x2_3 => (
    r6 x4 x2_3 z0)))

set_option maxRecDepth 100000 in
set_option maxHeartbeats 4000000 in
theorem k_X12_slips_83 {p : Program} {l : Launch} {e : Env} {s : State} {m : MethodId} {args : Array Value} {below : List Frame} {meth : Method} {c : Code} {A : Nat → Prop} {D : va_G} {cA : Nat → ClassId} (C0 : MX p s m args meth c cX12_slips 7 wsX12_slips RX12 (some .int) D cA) (hA : ∀ q, s.heap.size ≤ q → A q) {a0 : Nat} {q_sheets : Nat} {q_oldest : Nat} {q_youngest : Nat} {q_marsh : Nat} {q_text : Nat} {q_depths : Nat} {q_tune : Nat} {q_far : Nat} {q_books : Nat} {q_told : Nat} {q_years : Nat} {q_months : Nat} {q_ring : Nat} {q_woods : Nat} {q_ends : Nat} {q_wood : Nat} {q_knowns : Nat} {q_known : Nat} {q_weight : Nat} {q_chance : Nat} {q_digs : Nat} {q_draft : Nat} {q_isKept : Nat} {s_trace : Int64} {s_typed : Int32} {s_earliest : Int32} {s_latest : Int32} {s_firstYear : Int32} {s_rings : Int32} {s_sheets : Nat → Int32} {s_oldest : Nat → Int32} {s_youngest : Nat → Int32} {s_marsh : Nat → Int32} {o_r : Int32} {r6 : (Int32) → (Int32) → (Int32) → Option ((Int32))} (hr6 : ∀ (x1 : Int32) (x2 : Int32) (x3 : Int32), r6 x1 x2 x3 = some o_r → ∀ (H : Heap) (locs : List Loc), va_P D vwCl (w_X12_slips a0 q_sheets q_oldest q_youngest q_marsh q_text q_depths q_tune q_far q_books q_told q_years q_months q_ring q_woods q_ends q_wood q_knowns q_known q_weight q_chance q_digs q_draft q_isKept cA s_trace s_typed s_earliest s_latest s_firstYear s_rings s_sheets s_oldest s_youngest s_marsh) H → va_D A (w_X12_slips a0 q_sheets q_oldest q_youngest q_marsh q_text q_depths q_tune q_far q_books q_told q_years q_months q_ring q_woods q_ends q_wood q_knowns q_known q_weight q_chance q_digs q_draft q_isKept cA s_trace s_typed s_earliest s_latest s_firstYear s_rings s_sheets s_oldest s_youngest s_marsh) → va_S A s.heap H locs → ∀ ls : Array Slot, lv_has ls 7 [(0, .ref a0), (1, .int x1), (2, .int x2), (3, .int x3)] → W p l e rm_X12_slips s m args below meth c H locs 0 0 (MQ below (CQ D (some (.int o_r)) (w_X12_slips a0 q_sheets q_oldest q_youngest q_marsh q_text q_depths q_tune q_far q_books q_told q_years q_months q_ring q_woods q_ends q_wood q_knowns q_known q_weight q_chance q_digs q_draft q_isKept cA s_trace s_typed s_earliest s_latest s_firstYear s_rings s_sheets s_oldest s_youngest s_marsh) A) args s 0 0 A) (F0 m 6 ls [])) : ∀ (x2 : Int32) (x4 : Int32) (z0 : Int32), f_X12_slips_83 r6 s_sheets s_oldest s_youngest s_marsh x2 x4 z0 = some o_r → ∀ (H : Heap) (locs : List Loc), va_P D vwCl (w_X12_slips a0 q_sheets q_oldest q_youngest q_marsh q_text q_depths q_tune q_far q_books q_told q_years q_months q_ring q_woods q_ends q_wood q_knowns q_known q_weight q_chance q_digs q_draft q_isKept cA s_trace s_typed s_earliest s_latest s_firstYear s_rings s_sheets s_oldest s_youngest s_marsh) H → va_D A (w_X12_slips a0 q_sheets q_oldest q_youngest q_marsh q_text q_depths q_tune q_far q_books q_told q_years q_months q_ring q_woods q_ends q_wood q_knowns q_known q_weight q_chance q_digs q_draft q_isKept cA s_trace s_typed s_earliest s_latest s_firstYear s_rings s_sheets s_oldest s_youngest s_marsh) → va_S A s.heap H locs → ∀ ls : Array Slot, lv_has ls 7 [(0, .ref a0), (2, .int x2), (4, .int x4)] → W p l e rm_X12_slips s m args below meth c H locs 0 0 (MQ below (CQ D (some (.int o_r)) (w_X12_slips a0 q_sheets q_oldest q_youngest q_marsh q_text q_depths q_tune q_far q_books q_told q_years q_months q_ring q_woods q_ends q_wood q_knowns q_known q_weight q_chance q_digs q_draft q_isKept cA s_trace s_typed s_earliest s_latest s_firstYear s_rings s_sheets s_oldest s_youngest s_marsh) A) args s 0 0 A) (F0 m 83 ls [.int z0]) := by
  obtain ⟨hx, hb, hml, hown, hts, hr, hlocks, hX⟩ := C0
  have hK := hX.1
  have hN := hX.2
  intro x2 x4 z0 hf H locs hP hD hS ls hl
  unfold f_X12_slips_83 at hf
  refine lv_istore_n (lv' := [(3, .int z0), (0, .ref a0), (2, .int x2), (4, .int x4)]) hx hb dX12_slips_83 rfl hl (by decide) rfl (fun ls hl => ?_)
  refine lv_iload hx hb dX12_slips_84 (lv_at hl 3 rfl) ?_
  refine lv_istore_n (lv' := [(1, .int x4), (3, .int z0), (0, .ref a0), (2, .int x2), (4, .int x4)]) hx hb dX12_slips_86 rfl hl (by decide) rfl (fun ls hl => ?_)
  refine lv_iload_n hx hb dX12_slips_87 rfl (lv_at hl 3 rfl) ?_
  refine lv_iload_n hx hb dX12_slips_88 rfl (lv_at hl 1 rfl) ?_
  refine lv_if_eq (tgt := 96) hx hb dX12_slips_89 (by decide) (fun c_1 => ?_) (fun c_1 => ?_)
  · have hf := pbr_t c_1 hf
    refine lv_iconst (v := (0 : Int32)) hx hb dX12_slips_96 (by decide) ?_
    refine lv_iadd hx hb dX12_slips_97 ?_
    refine lv_topi (fun x2_2 ex2_2 => ?_)
    have hf := plt_e ex2_2 hf
    refine lv_istore_n (lv' := [(2, .int x2_2), (1, .int x4), (3, .int z0), (0, .ref a0), (4, .int x4)]) hx hb dX12_slips_98 rfl hl (by decide) rfl (fun ls hl => ?_)
    refine lv_goto (tgt := 6) hx hb dX12_slips_99 (by decide) ?_
    exact hr6 x4 x2_2 z0 hf _ _ hP hD hS ls (lv_sub hl [3, 1, 0, 2] rfl)
  have hf := pbr_f c_1 hf
  refine lv_iconst (v := (1 : Int32)) hx hb dX12_slips_92 (by decide) ?_
  refine lv_goto (tgt := 97) hx hb dX12_slips_93 (by decide) ?_
  refine lv_iadd hx hb dX12_slips_97 ?_
  refine lv_topi (fun x2_3 ex2_3 => ?_)
  have hf := plt_e ex2_3 hf
  refine lv_istore_n (lv' := [(2, .int x2_3), (1, .int x4), (3, .int z0), (0, .ref a0), (4, .int x4)]) hx hb dX12_slips_98 rfl hl (by decide) rfl (fun ls hl => ?_)
  refine lv_goto (tgt := 6) hx hb dX12_slips_99 (by decide) ?_
  exact hr6 x4 x2_3 z0 hf _ _ hP hD hS ls (lv_sub hl [3, 1, 0, 2] rfl)

def f_X12_slips_61 (r6 : (Int32) → (Int32) → (Int32) → Option ((Int32))) (r17 : (Int32) → (Int32) → (Int32) → (Int32) → Option ((Int32))) (s_sheets : Nat → Int32) (s_oldest : Nat → Int32) (s_youngest : Nat → Int32) (s_marsh : Nat → Int32) (x1 : Int32) (x2 : Int32) (x4 : Int32) (x5 : Int32) : Option ((Int32)) :=
  plt (x5 + (1 : Int32) : Int32) (fun x5_1 => (
  r17 x1 x2 x4 x5_1))

set_option maxRecDepth 100000 in
set_option maxHeartbeats 4000000 in
theorem k_X12_slips_61 {p : Program} {l : Launch} {e : Env} {s : State} {m : MethodId} {args : Array Value} {below : List Frame} {meth : Method} {c : Code} {A : Nat → Prop} {D : va_G} {cA : Nat → ClassId} (C0 : MX p s m args meth c cX12_slips 7 wsX12_slips RX12 (some .int) D cA) (hA : ∀ q, s.heap.size ≤ q → A q) {a0 : Nat} {q_sheets : Nat} {q_oldest : Nat} {q_youngest : Nat} {q_marsh : Nat} {q_text : Nat} {q_depths : Nat} {q_tune : Nat} {q_far : Nat} {q_books : Nat} {q_told : Nat} {q_years : Nat} {q_months : Nat} {q_ring : Nat} {q_woods : Nat} {q_ends : Nat} {q_wood : Nat} {q_knowns : Nat} {q_known : Nat} {q_weight : Nat} {q_chance : Nat} {q_digs : Nat} {q_draft : Nat} {q_isKept : Nat} {s_trace : Int64} {s_typed : Int32} {s_earliest : Int32} {s_latest : Int32} {s_firstYear : Int32} {s_rings : Int32} {s_sheets : Nat → Int32} {s_oldest : Nat → Int32} {s_youngest : Nat → Int32} {s_marsh : Nat → Int32} {o_r : Int32} {r6 : (Int32) → (Int32) → (Int32) → Option ((Int32))} (hr6 : ∀ (x1 : Int32) (x2 : Int32) (x3 : Int32), r6 x1 x2 x3 = some o_r → ∀ (H : Heap) (locs : List Loc), va_P D vwCl (w_X12_slips a0 q_sheets q_oldest q_youngest q_marsh q_text q_depths q_tune q_far q_books q_told q_years q_months q_ring q_woods q_ends q_wood q_knowns q_known q_weight q_chance q_digs q_draft q_isKept cA s_trace s_typed s_earliest s_latest s_firstYear s_rings s_sheets s_oldest s_youngest s_marsh) H → va_D A (w_X12_slips a0 q_sheets q_oldest q_youngest q_marsh q_text q_depths q_tune q_far q_books q_told q_years q_months q_ring q_woods q_ends q_wood q_knowns q_known q_weight q_chance q_digs q_draft q_isKept cA s_trace s_typed s_earliest s_latest s_firstYear s_rings s_sheets s_oldest s_youngest s_marsh) → va_S A s.heap H locs → ∀ ls : Array Slot, lv_has ls 7 [(0, .ref a0), (1, .int x1), (2, .int x2), (3, .int x3)] → W p l e rm_X12_slips s m args below meth c H locs 0 0 (MQ below (CQ D (some (.int o_r)) (w_X12_slips a0 q_sheets q_oldest q_youngest q_marsh q_text q_depths q_tune q_far q_books q_told q_years q_months q_ring q_woods q_ends q_wood q_knowns q_known q_weight q_chance q_digs q_draft q_isKept cA s_trace s_typed s_earliest s_latest s_firstYear s_rings s_sheets s_oldest s_youngest s_marsh) A) args s 0 0 A) (F0 m 6 ls [])) {r17 : (Int32) → (Int32) → (Int32) → (Int32) → Option ((Int32))} (hr17 : ∀ (x1 : Int32) (x2 : Int32) (x4 : Int32) (x5 : Int32), r17 x1 x2 x4 x5 = some o_r → ∀ (H : Heap) (locs : List Loc), va_P D vwCl (w_X12_slips a0 q_sheets q_oldest q_youngest q_marsh q_text q_depths q_tune q_far q_books q_told q_years q_months q_ring q_woods q_ends q_wood q_knowns q_known q_weight q_chance q_digs q_draft q_isKept cA s_trace s_typed s_earliest s_latest s_firstYear s_rings s_sheets s_oldest s_youngest s_marsh) H → va_D A (w_X12_slips a0 q_sheets q_oldest q_youngest q_marsh q_text q_depths q_tune q_far q_books q_told q_years q_months q_ring q_woods q_ends q_wood q_knowns q_known q_weight q_chance q_digs q_draft q_isKept cA s_trace s_typed s_earliest s_latest s_firstYear s_rings s_sheets s_oldest s_youngest s_marsh) → va_S A s.heap H locs → ∀ ls : Array Slot, lv_has ls 7 [(0, .ref a0), (1, .int x1), (2, .int x2), (4, .int x4), (5, .int x5)] → W p l e rm_X12_slips s m args below meth c H locs 0 0 (MQ below (CQ D (some (.int o_r)) (w_X12_slips a0 q_sheets q_oldest q_youngest q_marsh q_text q_depths q_tune q_far q_books q_told q_years q_months q_ring q_woods q_ends q_wood q_knowns q_known q_weight q_chance q_digs q_draft q_isKept cA s_trace s_typed s_earliest s_latest s_firstYear s_rings s_sheets s_oldest s_youngest s_marsh) A) args s 0 0 A) (F0 m 17 ls [])) : ∀ (x1 : Int32) (x2 : Int32) (x4 : Int32) (x5 : Int32), f_X12_slips_61 r6 r17 s_sheets s_oldest s_youngest s_marsh x1 x2 x4 x5 = some o_r → ∀ (H : Heap) (locs : List Loc), va_P D vwCl (w_X12_slips a0 q_sheets q_oldest q_youngest q_marsh q_text q_depths q_tune q_far q_books q_told q_years q_months q_ring q_woods q_ends q_wood q_knowns q_known q_weight q_chance q_digs q_draft q_isKept cA s_trace s_typed s_earliest s_latest s_firstYear s_rings s_sheets s_oldest s_youngest s_marsh) H → va_D A (w_X12_slips a0 q_sheets q_oldest q_youngest q_marsh q_text q_depths q_tune q_far q_books q_told q_years q_months q_ring q_woods q_ends q_wood q_knowns q_known q_weight q_chance q_digs q_draft q_isKept cA s_trace s_typed s_earliest s_latest s_firstYear s_rings s_sheets s_oldest s_youngest s_marsh) → va_S A s.heap H locs → ∀ ls : Array Slot, lv_has ls 7 [(0, .ref a0), (1, .int x1), (2, .int x2), (4, .int x4), (5, .int x5)] → W p l e rm_X12_slips s m args below meth c H locs 0 0 (MQ below (CQ D (some (.int o_r)) (w_X12_slips a0 q_sheets q_oldest q_youngest q_marsh q_text q_depths q_tune q_far q_books q_told q_years q_months q_ring q_woods q_ends q_wood q_knowns q_known q_weight q_chance q_digs q_draft q_isKept cA s_trace s_typed s_earliest s_latest s_firstYear s_rings s_sheets s_oldest s_youngest s_marsh) A) args s 0 0 A) (F0 m 61 ls []) := by
  obtain ⟨hx, hb, hml, hown, hts, hr, hlocks, hX⟩ := C0
  have hK := hX.1
  have hN := hX.2
  intro x1 x2 x4 x5 hf H locs hP hD hS ls hl
  unfold f_X12_slips_61 at hf
  refine lv_iload hx hb dX12_slips_61 (lv_at hl 3 rfl) ?_
  refine lv_istore (lv' := [(4, .int x4), (0, .ref a0), (1, .int x1), (2, .int x2), (5, .int x5)]) hx hb dX12_slips_63 hl (by decide) rfl (fun ls hl => ?_)
  obtain ⟨x5_1, ex5_1⟩ : ∃ z : Int32, z = x5 + (1 : Int32) := ⟨_, rfl⟩
  have hf := plt_e ex5_1 hf
  refine lv_iinc (v := x5_1) (lv' := [(5, .int x5_1), (4, .int x4), (0, .ref a0), (1, .int x1), (2, .int x2)]) hx hb dX12_slips_65 hl (k := 4) rfl (by rw [ex5_1]; rfl) (by decide) rfl (fun ls hl => ?_)
  refine lv_goto (tgt := 17) hx hb dX12_slips_68 (by decide) ?_
  exact hr17 x1 x2 x4 x5_1 hf _ _ hP hD hS ls (lv_sub hl [2, 3, 4, 1, 0] rfl)

def f_X12_slips_17 (r6 : (Int32) → (Int32) → (Int32) → Option ((Int32))) (s_sheets : Nat → Int32) (s_oldest : Nat → Int32) (s_youngest : Nat → Int32) (s_marsh : Nat → Int32) : Nat → (Int32) → (Int32) → (Int32) → (Int32) → Option ((Int32))
  | 0, _, _, _, _ => none
  | k + 1, x1, x2, x4, x5 =>
    pbr ((s_sheets (0 : Int32).toNatClampNeg) ≤ x5)
      (pbr ((1000000 : Int32) ≤ x4)
        (f_X12_slips_83 r6 s_sheets s_oldest s_youngest s_marsh x2 x4 (0 : Int32))
        (f_X12_slips_83 r6 s_sheets s_oldest s_youngest s_marsh x2 x4 (1 : Int32)))
      (pgd (pin x5 36) (
      pbr ((s_oldest x5.toNatClampNeg) ≤ x1)
        (f_X12_slips_61 r6 (f_X12_slips_17 r6 s_sheets s_oldest s_youngest s_marsh k) s_sheets s_oldest s_youngest s_marsh x1 x2 x4 x5)
        (pbr (x4 ≤ (s_youngest x5.toNatClampNeg))
          (f_X12_slips_61 r6 (f_X12_slips_17 r6 s_sheets s_oldest s_youngest s_marsh k) s_sheets s_oldest s_youngest s_marsh x1 x2 x4 x5)
          (plt ((s_youngest x5.toNatClampNeg) : Int32) (fun x4_6 => (
          plt (x5 + (1 : Int32) : Int32) (fun x5_7 => (
          (f_X12_slips_17 r6 s_sheets s_oldest s_youngest s_marsh k) x1 x2 x4_6 x5_7))))))))

set_option maxRecDepth 100000 in
set_option maxHeartbeats 4000000 in
theorem k_X12_slips_17 {p : Program} {l : Launch} {e : Env} {s : State} {m : MethodId} {args : Array Value} {below : List Frame} {meth : Method} {c : Code} {A : Nat → Prop} {D : va_G} {cA : Nat → ClassId} (C0 : MX p s m args meth c cX12_slips 7 wsX12_slips RX12 (some .int) D cA) (hA : ∀ q, s.heap.size ≤ q → A q) {a0 : Nat} {q_sheets : Nat} {q_oldest : Nat} {q_youngest : Nat} {q_marsh : Nat} {q_text : Nat} {q_depths : Nat} {q_tune : Nat} {q_far : Nat} {q_books : Nat} {q_told : Nat} {q_years : Nat} {q_months : Nat} {q_ring : Nat} {q_woods : Nat} {q_ends : Nat} {q_wood : Nat} {q_knowns : Nat} {q_known : Nat} {q_weight : Nat} {q_chance : Nat} {q_digs : Nat} {q_draft : Nat} {q_isKept : Nat} {s_trace : Int64} {s_typed : Int32} {s_earliest : Int32} {s_latest : Int32} {s_firstYear : Int32} {s_rings : Int32} {s_sheets : Nat → Int32} {s_oldest : Nat → Int32} {s_youngest : Nat → Int32} {s_marsh : Nat → Int32} {o_r : Int32} {r6 : (Int32) → (Int32) → (Int32) → Option ((Int32))} (hr6 : ∀ (x1 : Int32) (x2 : Int32) (x3 : Int32), r6 x1 x2 x3 = some o_r → ∀ (H : Heap) (locs : List Loc), va_P D vwCl (w_X12_slips a0 q_sheets q_oldest q_youngest q_marsh q_text q_depths q_tune q_far q_books q_told q_years q_months q_ring q_woods q_ends q_wood q_knowns q_known q_weight q_chance q_digs q_draft q_isKept cA s_trace s_typed s_earliest s_latest s_firstYear s_rings s_sheets s_oldest s_youngest s_marsh) H → va_D A (w_X12_slips a0 q_sheets q_oldest q_youngest q_marsh q_text q_depths q_tune q_far q_books q_told q_years q_months q_ring q_woods q_ends q_wood q_knowns q_known q_weight q_chance q_digs q_draft q_isKept cA s_trace s_typed s_earliest s_latest s_firstYear s_rings s_sheets s_oldest s_youngest s_marsh) → va_S A s.heap H locs → ∀ ls : Array Slot, lv_has ls 7 [(0, .ref a0), (1, .int x1), (2, .int x2), (3, .int x3)] → W p l e rm_X12_slips s m args below meth c H locs 0 0 (MQ below (CQ D (some (.int o_r)) (w_X12_slips a0 q_sheets q_oldest q_youngest q_marsh q_text q_depths q_tune q_far q_books q_told q_years q_months q_ring q_woods q_ends q_wood q_knowns q_known q_weight q_chance q_digs q_draft q_isKept cA s_trace s_typed s_earliest s_latest s_firstYear s_rings s_sheets s_oldest s_youngest s_marsh) A) args s 0 0 A) (F0 m 6 ls [])) : ∀ (k : Nat) (x1 : Int32) (x2 : Int32) (x4 : Int32) (x5 : Int32), f_X12_slips_17 r6 s_sheets s_oldest s_youngest s_marsh k x1 x2 x4 x5 = some o_r → ∀ (H : Heap) (locs : List Loc), va_P D vwCl (w_X12_slips a0 q_sheets q_oldest q_youngest q_marsh q_text q_depths q_tune q_far q_books q_told q_years q_months q_ring q_woods q_ends q_wood q_knowns q_known q_weight q_chance q_digs q_draft q_isKept cA s_trace s_typed s_earliest s_latest s_firstYear s_rings s_sheets s_oldest s_youngest s_marsh) H → va_D A (w_X12_slips a0 q_sheets q_oldest q_youngest q_marsh q_text q_depths q_tune q_far q_books q_told q_years q_months q_ring q_woods q_ends q_wood q_knowns q_known q_weight q_chance q_digs q_draft q_isKept cA s_trace s_typed s_earliest s_latest s_firstYear s_rings s_sheets s_oldest s_youngest s_marsh) → va_S A s.heap H locs → ∀ ls : Array Slot, lv_has ls 7 [(0, .ref a0), (1, .int x1), (2, .int x2), (4, .int x4), (5, .int x5)] → W p l e rm_X12_slips s m args below meth c H locs 0 0 (MQ below (CQ D (some (.int o_r)) (w_X12_slips a0 q_sheets q_oldest q_youngest q_marsh q_text q_depths q_tune q_far q_books q_told q_years q_months q_ring q_woods q_ends q_wood q_knowns q_known q_weight q_chance q_digs q_draft q_isKept cA s_trace s_typed s_earliest s_latest s_firstYear s_rings s_sheets s_oldest s_youngest s_marsh) A) args s 0 0 A) (F0 m 17 ls []) := by
  obtain ⟨hx, hb, hml, hown, hts, hr, hlocks, hX⟩ := C0
  have hK := hX.1
  have hN := hX.2
  intro k
  induction k with
  | zero =>
    intro x1 x2 x4 x5 hf
    cases hf
  | succ k ih =>
    intro x1 x2 x4 x5 hf H locs hP hD hS ls hl
    rw [f_X12_slips_17] at hf
    refine lv_iload hx hb dX12_slips_17 (lv_at hl 4 rfl) ?_
    refine lv_aload_n hx hb dX12_slips_19 rfl (lv_at hl 0 rfl) ?_
    refine va_get (D := D) (ci := 12) (v := .ref q_sheets) (C := RX12) (T := TX12) (N := 29) hx hb hts hn_X12_slips_X12 hown hK hP 0 rfl rfl 18 (by decide) (hts _ hw_X12_slips_f47) (fun _ h9 => h9) rfl dX12_slips_20 ?_
    refine lv_iconst (v := (0 : Int32)) hx hb dX12_slips_23 (by decide) ?_
    refine va_iald hx hb hK hP 1 1 rfl rfl (show pin (0 : Int32) 3 by decide +kernel) dX12_slips_24 ?_
    refine lv_icmp_ge (tgt := 71) hx hb dX12_slips_25 (by decide) (fun c_1 => ?_) (fun c_1 => ?_)
    · have hf := pbr_t c_1 hf
      refine lv_iload hx hb dX12_slips_71 (lv_at hl 3 rfl) ?_
      refine lv_ldc (v := (1000000 : Int32)) hx hb hown (hts _ hw_X12_slips_c107) dX12_slips_73 ?_
      refine lv_icmp_ge (tgt := 82) hx hb dX12_slips_75 (by decide) (fun c_2 => ?_) (fun c_2 => ?_)
      · have hf := pbr_t c_2 hf
        refine lv_iconst (v := (0 : Int32)) hx hb dX12_slips_82 (by decide) ?_
        exact k_X12_slips_83 ⟨hx, hb, hml, hown, hts, hr, hlocks, hX⟩ hA hr6 x2 x4 (0 : Int32) hf _ _ hP hD hS ls (lv_sub hl [0, 2, 3] rfl)
      have hf := pbr_f c_2 hf
      refine lv_iconst (v := (1 : Int32)) hx hb dX12_slips_78 (by decide) ?_
      refine lv_goto (tgt := 83) hx hb dX12_slips_79 (by decide) ?_
      exact k_X12_slips_83 ⟨hx, hb, hml, hown, hts, hr, hlocks, hX⟩ hA hr6 x2 x4 (1 : Int32) hf _ _ hP hD hS ls (lv_sub hl [0, 2, 3] rfl)
    have hf := pbr_f c_1 hf
    refine lv_aload_n hx hb dX12_slips_28 rfl (lv_at hl 0 rfl) ?_
    refine va_get (D := D) (ci := 12) (v := .ref q_oldest) (C := RX12) (T := TX12) (N := 29) hx hb hts hn_X12_slips_X12 hown hK hP 0 rfl rfl 20 (by decide) (hts _ hw_X12_slips_f53) (fun _ h9 => h9) rfl dX12_slips_29 ?_
    refine lv_iload hx hb dX12_slips_32 (lv_at hl 4 rfl) ?_
    obtain ⟨g_3, hf⟩ := pgd_e hf
    refine va_iald hx hb hK hP 2 1 rfl rfl g_3 dX12_slips_34 ?_
    refine lv_iload_n hx hb dX12_slips_35 rfl (lv_at hl 1 rfl) ?_
    refine lv_icmp_le (tgt := 61) hx hb dX12_slips_36 (by decide) (fun c_4 => ?_) (fun c_4 => ?_)
    · have hf := pbr_t c_4 hf
      exact k_X12_slips_61 ⟨hx, hb, hml, hown, hts, hr, hlocks, hX⟩ hA hr6 ih x1 x2 x4 x5 hf _ _ hP hD hS ls (lv_sub hl [0, 1, 2, 3, 4] rfl)
    have hf := pbr_f c_4 hf
    refine lv_aload_n hx hb dX12_slips_39 rfl (lv_at hl 0 rfl) ?_
    refine va_get (D := D) (ci := 12) (v := .ref q_youngest) (C := RX12) (T := TX12) (N := 29) hx hb hts hn_X12_slips_X12 hown hK hP 0 rfl rfl 21 (by decide) (hts _ hw_X12_slips_f56) (fun _ h9 => h9) rfl dX12_slips_40 ?_
    refine lv_iload hx hb dX12_slips_43 (lv_at hl 4 rfl) ?_
    refine va_iald hx hb hK hP 3 1 rfl rfl g_3 dX12_slips_45 ?_
    refine lv_iload hx hb dX12_slips_46 (lv_at hl 3 rfl) ?_
    refine lv_icmp_ge (tgt := 61) hx hb dX12_slips_48 (by decide) (fun c_5 => ?_) (fun c_5 => ?_)
    · have hf := pbr_t c_5 hf
      exact k_X12_slips_61 ⟨hx, hb, hml, hown, hts, hr, hlocks, hX⟩ hA hr6 ih x1 x2 x4 x5 hf _ _ hP hD hS ls (lv_sub hl [0, 1, 2, 3, 4] rfl)
    have hf := pbr_f c_5 hf
    refine lv_aload_n hx hb dX12_slips_51 rfl (lv_at hl 0 rfl) ?_
    refine va_get (D := D) (ci := 12) (v := .ref q_youngest) (C := RX12) (T := TX12) (N := 29) hx hb hts hn_X12_slips_X12 hown hK hP 0 rfl rfl 21 (by decide) (hts _ hw_X12_slips_f56) (fun _ h9 => h9) rfl dX12_slips_52 ?_
    refine lv_iload hx hb dX12_slips_55 (lv_at hl 4 rfl) ?_
    refine va_iald hx hb hK hP 3 1 rfl rfl g_3 dX12_slips_57 ?_
    refine lv_goto (tgt := 63) hx hb dX12_slips_58 (by decide) ?_
    refine lv_topi (fun x4_6 ex4_6 => ?_)
    have hf := plt_e ex4_6 hf
    refine lv_istore (lv' := [(4, .int x4_6), (0, .ref a0), (1, .int x1), (2, .int x2), (5, .int x5)]) hx hb dX12_slips_63 hl (by decide) rfl (fun ls hl => ?_)
    obtain ⟨x5_7, ex5_7⟩ : ∃ z : Int32, z = x5 + (1 : Int32) := ⟨_, rfl⟩
    have hf := plt_e ex5_7 hf
    refine lv_iinc (v := x5_7) (lv' := [(5, .int x5_7), (4, .int x4_6), (0, .ref a0), (1, .int x1), (2, .int x2)]) hx hb dX12_slips_65 hl (k := 4) rfl (by rw [ex5_7]; rfl) (by decide) rfl (fun ls hl => ?_)
    refine lv_goto (tgt := 17) hx hb dX12_slips_68 (by decide) ?_
    exact ih x1 x2 x4_6 x5_7 hf _ _ hP hD hS ls (lv_sub hl [2, 3, 4, 1, 0] rfl)

def f_X12_slips_6 (s_sheets : Nat → Int32) (s_oldest : Nat → Int32) (s_youngest : Nat → Int32) (s_marsh : Nat → Int32) : Nat → (Int32) → (Int32) → (Int32) → Option ((Int32))
  | 0, _, _, _ => none
  | k + 1, x1, x2, x3 =>
    pbr (x3 = 0)
      (f_X12_slips_105 s_sheets s_oldest s_youngest s_marsh FU x2 (0 : Int32))
      (f_X12_slips_17 (f_X12_slips_6 s_sheets s_oldest s_youngest s_marsh k) s_sheets s_oldest s_youngest s_marsh FU x1 x2 (1000000 : Int32) (0 : Int32))

set_option maxRecDepth 100000 in
set_option maxHeartbeats 4000000 in
theorem k_X12_slips_6 {p : Program} {l : Launch} {e : Env} {s : State} {m : MethodId} {args : Array Value} {below : List Frame} {meth : Method} {c : Code} {A : Nat → Prop} {D : va_G} {cA : Nat → ClassId} (C0 : MX p s m args meth c cX12_slips 7 wsX12_slips RX12 (some .int) D cA) (hA : ∀ q, s.heap.size ≤ q → A q) {a0 : Nat} {q_sheets : Nat} {q_oldest : Nat} {q_youngest : Nat} {q_marsh : Nat} {q_text : Nat} {q_depths : Nat} {q_tune : Nat} {q_far : Nat} {q_books : Nat} {q_told : Nat} {q_years : Nat} {q_months : Nat} {q_ring : Nat} {q_woods : Nat} {q_ends : Nat} {q_wood : Nat} {q_knowns : Nat} {q_known : Nat} {q_weight : Nat} {q_chance : Nat} {q_digs : Nat} {q_draft : Nat} {q_isKept : Nat} {s_trace : Int64} {s_typed : Int32} {s_earliest : Int32} {s_latest : Int32} {s_firstYear : Int32} {s_rings : Int32} {s_sheets : Nat → Int32} {s_oldest : Nat → Int32} {s_youngest : Nat → Int32} {s_marsh : Nat → Int32} {o_r : Int32} : ∀ (k : Nat) (x1 : Int32) (x2 : Int32) (x3 : Int32), f_X12_slips_6 s_sheets s_oldest s_youngest s_marsh k x1 x2 x3 = some o_r → ∀ (H : Heap) (locs : List Loc), va_P D vwCl (w_X12_slips a0 q_sheets q_oldest q_youngest q_marsh q_text q_depths q_tune q_far q_books q_told q_years q_months q_ring q_woods q_ends q_wood q_knowns q_known q_weight q_chance q_digs q_draft q_isKept cA s_trace s_typed s_earliest s_latest s_firstYear s_rings s_sheets s_oldest s_youngest s_marsh) H → va_D A (w_X12_slips a0 q_sheets q_oldest q_youngest q_marsh q_text q_depths q_tune q_far q_books q_told q_years q_months q_ring q_woods q_ends q_wood q_knowns q_known q_weight q_chance q_digs q_draft q_isKept cA s_trace s_typed s_earliest s_latest s_firstYear s_rings s_sheets s_oldest s_youngest s_marsh) → va_S A s.heap H locs → ∀ ls : Array Slot, lv_has ls 7 [(0, .ref a0), (1, .int x1), (2, .int x2), (3, .int x3)] → W p l e rm_X12_slips s m args below meth c H locs 0 0 (MQ below (CQ D (some (.int o_r)) (w_X12_slips a0 q_sheets q_oldest q_youngest q_marsh q_text q_depths q_tune q_far q_books q_told q_years q_months q_ring q_woods q_ends q_wood q_knowns q_known q_weight q_chance q_digs q_draft q_isKept cA s_trace s_typed s_earliest s_latest s_firstYear s_rings s_sheets s_oldest s_youngest s_marsh) A) args s 0 0 A) (F0 m 6 ls []) := by
  obtain ⟨hx, hb, hml, hown, hts, hr, hlocks, hX⟩ := C0
  have hK := hX.1
  have hN := hX.2
  intro k
  induction k with
  | zero =>
    intro x1 x2 x3 hf
    cases hf
  | succ k ih =>
    intro x1 x2 x3 hf H locs hP hD hS ls hl
    rw [f_X12_slips_6] at hf
    refine lv_iload_n hx hb dX12_slips_6 rfl (lv_at hl 3 rfl) ?_
    refine lv_if_eq (tgt := 102) hx hb dX12_slips_7 (by decide) (fun c_1 => ?_) (fun c_1 => ?_)
    · have hf := pbr_t c_1 hf
      refine lv_iconst (v := (0 : Int32)) hx hb dX12_slips_102 (by decide) ?_
      refine lv_istore (lv' := [(4, .int (0 : Int32)), (0, .ref a0), (1, .int x1), (2, .int x2), (3, .int x3)]) hx hb dX12_slips_103 hl (by decide) rfl (fun ls hl => ?_)
      exact k_X12_slips_105 ⟨hx, hb, hml, hown, hts, hr, hlocks, hX⟩ hA FU x2 (0 : Int32) hf _ _ hP hD hS ls (lv_sub hl [1, 3, 0] rfl)
    have hf := pbr_f c_1 hf
    refine lv_ldc (v := (1000000 : Int32)) hx hb hown (hts _ hw_X12_slips_c107) dX12_slips_10 ?_
    refine lv_istore (lv' := [(4, .int (1000000 : Int32)), (0, .ref a0), (1, .int x1), (2, .int x2), (3, .int x3)]) hx hb dX12_slips_12 hl (by decide) rfl (fun ls hl => ?_)
    refine lv_iconst (v := (0 : Int32)) hx hb dX12_slips_14 (by decide) ?_
    refine lv_istore (lv' := [(5, .int (0 : Int32)), (4, .int (1000000 : Int32)), (0, .ref a0), (1, .int x1), (2, .int x2), (3, .int x3)]) hx hb dX12_slips_15 hl (by decide) rfl (fun ls hl => ?_)
    exact k_X12_slips_17 ⟨hx, hb, hml, hown, hts, hr, hlocks, hX⟩ hA ih FU x1 x2 (1000000 : Int32) (0 : Int32) hf _ _ hP hD hS ls (lv_sub hl [2, 3, 4, 1, 0] rfl)

def f_X12_slips (s_sheets : Nat → Int32) (s_oldest : Nat → Int32) (s_youngest : Nat → Int32) (s_marsh : Nat → Int32) : Option ((Int32)) :=
  f_X12_slips_6 s_sheets s_oldest s_youngest s_marsh FU (-1 : Int32) (0 : Int32) (1 : Int32)

set_option maxRecDepth 100000 in
set_option maxHeartbeats 4000000 in
theorem ct_X12_slips (l : Launch) (D : va_G) (cA : Nat → ClassId) (a0 : Nat) (q_sheets : Nat) (q_oldest : Nat) (q_youngest : Nat) (q_marsh : Nat) (q_text : Nat) (q_depths : Nat) (q_tune : Nat) (q_far : Nat) (q_books : Nat) (q_told : Nat) (q_years : Nat) (q_months : Nat) (q_ring : Nat) (q_woods : Nat) (q_ends : Nat) (q_wood : Nat) (q_knowns : Nat) (q_known : Nat) (q_weight : Nat) (q_chance : Nat) (q_digs : Nat) (q_draft : Nat) (q_isKept : Nat) (s_trace : Int64) (s_typed : Int32) (s_earliest : Int32) (s_latest : Int32) (s_firstYear : Int32) (s_rings : Int32) (s_sheets : Nat → Int32) (s_oldest : Nat → Int32) (s_youngest : Nat → Int32) (s_marsh : Nat → Int32) (o_r : Int32) (hf : f_X12_slips s_sheets s_oldest s_youngest s_marsh = some o_r) : CT l yX12_slips wsX12_slips rm_X12_slips D cA [.ref a0] (w_X12_slips a0 q_sheets q_oldest q_youngest q_marsh q_text q_depths q_tune q_far q_books q_told q_years q_months q_ring q_woods q_ends q_wood q_knowns q_known q_weight q_chance q_digs q_draft q_isKept cA s_trace s_typed s_earliest s_latest s_firstYear s_rings s_sheets s_oldest s_youngest s_marsh) (w_X12_slips a0 q_sheets q_oldest q_youngest q_marsh q_text q_depths q_tune q_far q_books q_told q_years q_months q_ring q_woods q_ends q_wood q_knowns q_known q_weight q_chance q_digs q_draft q_isKept cA s_trace s_typed s_earliest s_latest s_firstYear s_rings s_sheets s_oldest s_youngest s_marsh) (some (.int o_r)) := by
  refine CT.ofW (cc := cX12_slips) (maxL := 7) (ret := (some .int)) (by decide +kernel) rfl (Nat.le_of_ble_eq_true rfl) ?_
  intro p e s m below meth c A C0 hA hP hD ls hl
  have C0 : MX p s m [.ref a0].toArray meth c cX12_slips 7 wsX12_slips RX12 (some .int) D cA := C0
  have hl : lv_has ls 7 [(0, .ref a0)] := hl
  obtain ⟨hx, hb, hml, hown, hts, hr, hlocks, hX⟩ := id C0
  have hK := hX.1
  have hN := hX.2
  have hS : va_S A s.heap s.heap [] := va_S.rf
  unfold f_X12_slips at hf
  refine lv_iconst (v := (-1 : Int32)) hx hb dX12_slips_0 (by decide) ?_
  refine lv_istore_n (lv' := [(1, .int (-1 : Int32)), (0, .ref a0)]) hx hb dX12_slips_1 rfl hl (by decide) rfl (fun ls hl => ?_)
  refine lv_iconst (v := (0 : Int32)) hx hb dX12_slips_2 (by decide) ?_
  refine lv_istore_n (lv' := [(2, .int (0 : Int32)), (1, .int (-1 : Int32)), (0, .ref a0)]) hx hb dX12_slips_3 rfl hl (by decide) rfl (fun ls hl => ?_)
  refine lv_iconst (v := (1 : Int32)) hx hb dX12_slips_4 (by decide) ?_
  refine lv_istore_n (lv' := [(3, .int (1 : Int32)), (2, .int (0 : Int32)), (1, .int (-1 : Int32)), (0, .ref a0)]) hx hb dX12_slips_5 rfl hl (by decide) rfl (fun ls hl => ?_)
  exact k_X12_slips_6 C0 hA FU (-1 : Int32) (0 : Int32) (1 : Int32) hf _ _ hP hD hS ls (lv_sub hl [3, 2, 1, 0] rfl)
