/-! ===== OrphanWaveModel.clock(IIII)I ===== -/
abbrev rm_X12_clock : Room := { frames := 1, cells := 0, slots := 0, locals := 22 }
abbrev w_X12_clock (a0 : Nat) (q_years : Nat) (q_months : Nat) (q_text : Nat) (q_depths : Nat) (q_tune : Nat) (q_far : Nat) (q_books : Nat) (q_told : Nat) (q_ring : Nat) (q_woods : Nat) (q_ends : Nat) (q_wood : Nat) (q_sheets : Nat) (q_marsh : Nat) (q_oldest : Nat) (q_youngest : Nat) (q_knowns : Nat) (q_known : Nat) (q_weight : Nat) (q_chance : Nat) (q_digs : Nat) (q_draft : Nat) (q_isKept : Nat) (cA : Nat → ClassId) (s_trace : Int64) (s_typed : Int32) (s_earliest : Int32) (s_latest : Int32) (s_firstYear : Int32) (s_rings : Int32) (s_years : Nat → Int32) (s_months : Nat → Int32) : va_W := [(a0, .inr (12, [.long s_trace, .ref q_text, .int s_typed, .ref q_depths, .ref q_tune, .ref q_far, .ref q_books, .ref q_told, .int s_earliest, .int s_latest, .ref q_years, .ref q_months, .int s_firstYear, .int s_rings, .ref q_ring, .ref q_woods, .ref q_ends, .ref q_wood, .ref q_sheets, .ref q_marsh, .ref q_oldest, .ref q_youngest, .ref q_knowns, .ref q_known, .ref q_weight, .ref q_chance, .ref q_digs, .ref q_draft, .ref q_isKept])), (q_years, .inl (cA 1, 2, .inl s_years)), (q_months, .inl (cA 1, 224, .inl s_months))]
theorem hn_X12_clock_X12 : ∀ w ∈ u_ws RX12 TX12 29, w ∈ wsX12_clock := by decide +kernel
theorem hw_X12_clock_f29 : Cond.fieldLink RX12 29 "OrphanWaveModel" "years" "[I" ∈ wsX12_clock := by decide +kernel
theorem hw_X12_clock_c122 : Cond.constant RX12 122 (-1000000) ∈ wsX12_clock := by decide +kernel
theorem hw_X12_clock_f32 : Cond.fieldLink RX12 32 "OrphanWaveModel" "months" "[I" ∈ wsX12_clock := by decide +kernel

def f_X12_clock_109 (r78 : (Int32) → (Int32) → Option ((Int32))) (s_years : Nat → Int32) (s_months : Nat → Int32) (x1 : Int32) (x2 : Int32) (x3 : Int32) (x4 : Int32) : Nat → (Int32) → (Int32) → (Int32) → (Int32) → Option ((Int32))
  | 0, _, _, _, _ => none
  | k + 1, x5, x6, x7, x8 =>
    pbr (x7 ≤ x8)
      (plt (x6 + (1 : Int32) : Int32) (fun x6_2 => (
      r78 x5 x6_2)))
      (pgd (pin ((((14 : Int32) * x6) + (1 : Int32)) + x8) 224) (
      plt ((x5 + (s_months ((((14 : Int32) * x6) + (1 : Int32)) + x8).toNatClampNeg)) : Int32) (fun x5_4 => (
      plt (x8 + (1 : Int32) : Int32) (fun x8_5 => (
      (f_X12_clock_109 r78 s_years s_months x1 x2 x3 x4 k) x5_4 x6 x7 x8_5))))))

set_option maxRecDepth 100000 in
set_option maxHeartbeats 4000000 in
theorem k_X12_clock_109 {p : Program} {l : Launch} {e : Env} {s : State} {m : MethodId} {args : Array Value} {below : List Frame} {meth : Method} {c : Code} {A : Nat → Prop} {D : va_G} {cA : Nat → ClassId} (C0 : MX p s m args meth c cX12_clock 9 wsX12_clock RX12 (some .int) D cA) (hA : ∀ q, s.heap.size ≤ q → A q) {a0 : Nat} {q_years : Nat} {q_months : Nat} {q_text : Nat} {q_depths : Nat} {q_tune : Nat} {q_far : Nat} {q_books : Nat} {q_told : Nat} {q_ring : Nat} {q_woods : Nat} {q_ends : Nat} {q_wood : Nat} {q_sheets : Nat} {q_marsh : Nat} {q_oldest : Nat} {q_youngest : Nat} {q_knowns : Nat} {q_known : Nat} {q_weight : Nat} {q_chance : Nat} {q_digs : Nat} {q_draft : Nat} {q_isKept : Nat} {s_trace : Int64} {s_typed : Int32} {s_earliest : Int32} {s_latest : Int32} {s_firstYear : Int32} {s_rings : Int32} {s_years : Nat → Int32} {s_months : Nat → Int32} {x1 : Int32} {x2 : Int32} {x3 : Int32} {x4 : Int32} {o_r : Int32} {r78 : (Int32) → (Int32) → Option ((Int32))} (hr78 : ∀ (x5 : Int32) (x6 : Int32), r78 x5 x6 = some o_r → ∀ (H : Heap) (locs : List Loc), va_P D vwCl (w_X12_clock a0 q_years q_months q_text q_depths q_tune q_far q_books q_told q_ring q_woods q_ends q_wood q_sheets q_marsh q_oldest q_youngest q_knowns q_known q_weight q_chance q_digs q_draft q_isKept cA s_trace s_typed s_earliest s_latest s_firstYear s_rings s_years s_months) H → va_D A (w_X12_clock a0 q_years q_months q_text q_depths q_tune q_far q_books q_told q_ring q_woods q_ends q_wood q_sheets q_marsh q_oldest q_youngest q_knowns q_known q_weight q_chance q_digs q_draft q_isKept cA s_trace s_typed s_earliest s_latest s_firstYear s_rings s_years s_months) → va_S A s.heap H locs → ∀ ls : Array Slot, lv_has ls 9 [(0, .ref a0), (1, .int x1), (2, .int x2), (4, .int x4), (5, .int x5), (6, .int x6)] → W p l e rm_X12_clock s m args below meth c H locs 0 0 (MQ below (CQ D (some (.int o_r)) (w_X12_clock a0 q_years q_months q_text q_depths q_tune q_far q_books q_told q_ring q_woods q_ends q_wood q_sheets q_marsh q_oldest q_youngest q_knowns q_known q_weight q_chance q_digs q_draft q_isKept cA s_trace s_typed s_earliest s_latest s_firstYear s_rings s_years s_months) A) args s 0 0 A) (F0 m 78 ls [])) : ∀ (k : Nat) (x5 : Int32) (x6 : Int32) (x7 : Int32) (x8 : Int32), f_X12_clock_109 r78 s_years s_months x1 x2 x3 x4 k x5 x6 x7 x8 = some o_r → ∀ (H : Heap) (locs : List Loc), va_P D vwCl (w_X12_clock a0 q_years q_months q_text q_depths q_tune q_far q_books q_told q_ring q_woods q_ends q_wood q_sheets q_marsh q_oldest q_youngest q_knowns q_known q_weight q_chance q_digs q_draft q_isKept cA s_trace s_typed s_earliest s_latest s_firstYear s_rings s_years s_months) H → va_D A (w_X12_clock a0 q_years q_months q_text q_depths q_tune q_far q_books q_told q_ring q_woods q_ends q_wood q_sheets q_marsh q_oldest q_youngest q_knowns q_known q_weight q_chance q_digs q_draft q_isKept cA s_trace s_typed s_earliest s_latest s_firstYear s_rings s_years s_months) → va_S A s.heap H locs → ∀ ls : Array Slot, lv_has ls 9 [(0, .ref a0), (1, .int x1), (2, .int x2), (4, .int x4), (5, .int x5), (6, .int x6), (7, .int x7), (8, .int x8)] → W p l e rm_X12_clock s m args below meth c H locs 0 0 (MQ below (CQ D (some (.int o_r)) (w_X12_clock a0 q_years q_months q_text q_depths q_tune q_far q_books q_told q_ring q_woods q_ends q_wood q_sheets q_marsh q_oldest q_youngest q_knowns q_known q_weight q_chance q_digs q_draft q_isKept cA s_trace s_typed s_earliest s_latest s_firstYear s_rings s_years s_months) A) args s 0 0 A) (F0 m 109 ls []) := by
  obtain ⟨hx, hb, hml, hown, hts, hr, hlocks, hX⟩ := C0
  have hK := hX.1
  have hN := hX.2
  intro k
  induction k with
  | zero =>
    intro x5 x6 x7 x8 hf
    cases hf
  | succ k ih =>
    intro x5 x6 x7 x8 hf H locs hP hD hS ls hl
    rw [f_X12_clock_109] at hf
    refine lv_iload hx hb dX12_clock_109 (lv_at hl 7 rfl) ?_
    refine lv_iload hx hb dX12_clock_111 (lv_at hl 6 rfl) ?_
    refine lv_icmp_ge (tgt := 142) hx hb dX12_clock_113 (by decide) (fun c_1 => ?_) (fun c_1 => ?_)
    · have hf := pbr_t c_1 hf
      obtain ⟨x6_2, ex6_2⟩ : ∃ z : Int32, z = x6 + (1 : Int32) := ⟨_, rfl⟩
      have hf := plt_e ex6_2 hf
      refine lv_iinc (v := x6_2) (lv' := [(6, .int x6_2), (0, .ref a0), (1, .int x1), (2, .int x2), (4, .int x4), (5, .int x5), (7, .int x7), (8, .int x8)]) hx hb dX12_clock_142 hl (k := 5) rfl (by rw [ex6_2]; rfl) (by decide) rfl (fun ls hl => ?_)
      refine lv_goto (tgt := 78) hx hb dX12_clock_145 (by decide) ?_
      exact hr78 x5 x6_2 hf _ _ hP hD hS ls (lv_sub hl [1, 2, 3, 4, 5, 0] rfl)
    have hf := pbr_f c_1 hf
    refine lv_iload hx hb dX12_clock_116 (lv_at hl 4 rfl) ?_
    refine lv_aload_n hx hb dX12_clock_118 rfl (lv_at hl 0 rfl) ?_
    refine va_get (D := D) (ci := 12) (v := .ref q_months) (C := RX12) (T := TX12) (N := 29) hx hb hts hn_X12_clock_X12 hown hK hP 0 rfl rfl 11 (by decide) (hts _ hw_X12_clock_f32) (fun _ h9 => h9) rfl dX12_clock_119 ?_
    refine lv_bipush (v := (14 : Int32)) hx hb dX12_clock_122 (by decide) ?_
    refine lv_iload hx hb dX12_clock_124 (lv_at hl 5 rfl) ?_
    refine lv_imul hx hb dX12_clock_126 ?_
    refine lv_iconst (v := (1 : Int32)) hx hb dX12_clock_127 (by decide) ?_
    refine lv_iadd hx hb dX12_clock_128 ?_
    refine lv_iload hx hb dX12_clock_129 (lv_at hl 7 rfl) ?_
    refine lv_iadd hx hb dX12_clock_131 ?_
    obtain ⟨g_3, hf⟩ := pgd_e hf
    refine va_iald hx hb hK hP 2 1 rfl rfl g_3 dX12_clock_132 ?_
    refine lv_iadd hx hb dX12_clock_133 ?_
    refine lv_topi (fun x5_4 ex5_4 => ?_)
    have hf := plt_e ex5_4 hf
    refine lv_istore (lv' := [(5, .int x5_4), (0, .ref a0), (1, .int x1), (2, .int x2), (4, .int x4), (6, .int x6), (7, .int x7), (8, .int x8)]) hx hb dX12_clock_134 hl (by decide) rfl (fun ls hl => ?_)
    obtain ⟨x8_5, ex8_5⟩ : ∃ z : Int32, z = x8 + (1 : Int32) := ⟨_, rfl⟩
    have hf := plt_e ex8_5 hf
    refine lv_iinc (v := x8_5) (lv' := [(8, .int x8_5), (5, .int x5_4), (0, .ref a0), (1, .int x1), (2, .int x2), (4, .int x4), (6, .int x6), (7, .int x7)]) hx hb dX12_clock_136 hl (k := 7) rfl (by rw [ex8_5]; rfl) (by decide) rfl (fun ls hl => ?_)
    refine lv_goto (tgt := 109) hx hb dX12_clock_139 (by decide) ?_
    exact ih x5_4 x6 x7 x8_5 hf _ _ hP hD hS ls (lv_sub hl [2, 3, 4, 5, 1, 6, 7, 0] rfl)

def f_X12_clock_78 (s_years : Nat → Int32) (s_months : Nat → Int32) (x1 : Int32) (x2 : Int32) (x3 : Int32) (x4 : Int32) : Nat → (Int32) → (Int32) → Option ((Int32))
  | 0, _, _ => none
  | k + 1, x5, x6 =>
    pbr (x1 < x6)
      (some (((((1440 : Int32) * x5) + ((120 : Int32) * x4)) - (60 : Int32))))
      (pbr (x1 ≤ x6)
        (f_X12_clock_109 (f_X12_clock_78 s_years s_months x1 x2 x3 x4 k) s_years s_months x1 x2 x3 x4 FU x5 x6 x2 (0 : Int32))
        (pgd (pin ((14 : Int32) * x6) 224) (
        plt ((s_months ((14 : Int32) * x6).toNatClampNeg) : Int32) (fun x7_4 => (
        f_X12_clock_109 (f_X12_clock_78 s_years s_months x1 x2 x3 x4 k) s_years s_months x1 x2 x3 x4 FU x5 x6 x7_4 (0 : Int32))))))

set_option maxRecDepth 100000 in
set_option maxHeartbeats 4000000 in
theorem k_X12_clock_78 {p : Program} {l : Launch} {e : Env} {s : State} {m : MethodId} {args : Array Value} {below : List Frame} {meth : Method} {c : Code} {A : Nat → Prop} {D : va_G} {cA : Nat → ClassId} (C0 : MX p s m args meth c cX12_clock 9 wsX12_clock RX12 (some .int) D cA) (hA : ∀ q, s.heap.size ≤ q → A q) {a0 : Nat} {q_years : Nat} {q_months : Nat} {q_text : Nat} {q_depths : Nat} {q_tune : Nat} {q_far : Nat} {q_books : Nat} {q_told : Nat} {q_ring : Nat} {q_woods : Nat} {q_ends : Nat} {q_wood : Nat} {q_sheets : Nat} {q_marsh : Nat} {q_oldest : Nat} {q_youngest : Nat} {q_knowns : Nat} {q_known : Nat} {q_weight : Nat} {q_chance : Nat} {q_digs : Nat} {q_draft : Nat} {q_isKept : Nat} {s_trace : Int64} {s_typed : Int32} {s_earliest : Int32} {s_latest : Int32} {s_firstYear : Int32} {s_rings : Int32} {s_years : Nat → Int32} {s_months : Nat → Int32} {x1 : Int32} {x2 : Int32} {x3 : Int32} {x4 : Int32} {o_r : Int32} : ∀ (k : Nat) (x5 : Int32) (x6 : Int32), f_X12_clock_78 s_years s_months x1 x2 x3 x4 k x5 x6 = some o_r → ∀ (H : Heap) (locs : List Loc), va_P D vwCl (w_X12_clock a0 q_years q_months q_text q_depths q_tune q_far q_books q_told q_ring q_woods q_ends q_wood q_sheets q_marsh q_oldest q_youngest q_knowns q_known q_weight q_chance q_digs q_draft q_isKept cA s_trace s_typed s_earliest s_latest s_firstYear s_rings s_years s_months) H → va_D A (w_X12_clock a0 q_years q_months q_text q_depths q_tune q_far q_books q_told q_ring q_woods q_ends q_wood q_sheets q_marsh q_oldest q_youngest q_knowns q_known q_weight q_chance q_digs q_draft q_isKept cA s_trace s_typed s_earliest s_latest s_firstYear s_rings s_years s_months) → va_S A s.heap H locs → ∀ ls : Array Slot, lv_has ls 9 [(0, .ref a0), (1, .int x1), (2, .int x2), (4, .int x4), (5, .int x5), (6, .int x6)] → W p l e rm_X12_clock s m args below meth c H locs 0 0 (MQ below (CQ D (some (.int o_r)) (w_X12_clock a0 q_years q_months q_text q_depths q_tune q_far q_books q_told q_ring q_woods q_ends q_wood q_sheets q_marsh q_oldest q_youngest q_knowns q_known q_weight q_chance q_digs q_draft q_isKept cA s_trace s_typed s_earliest s_latest s_firstYear s_rings s_years s_months) A) args s 0 0 A) (F0 m 78 ls []) := by
  obtain ⟨hx, hb, hml, hown, hts, hr, hlocks, hX⟩ := C0
  have hK := hX.1
  have hN := hX.2
  intro k
  induction k with
  | zero =>
    intro x5 x6 hf
    cases hf
  | succ k ih =>
    intro x5 x6 hf H locs hP hD hS ls hl
    rw [f_X12_clock_78] at hf
    refine lv_iload hx hb dX12_clock_78 (lv_at hl 5 rfl) ?_
    refine lv_iload_n hx hb dX12_clock_80 rfl (lv_at hl 1 rfl) ?_
    refine lv_icmp_gt (tgt := 148) hx hb dX12_clock_81 (by decide) (fun c_1 => ?_) (fun c_1 => ?_)
    · have hf := pbr_t c_1 hf
      refine lv_sipush (v := (1440 : Int32)) hx hb dX12_clock_148 (by decide) ?_
      refine lv_iload hx hb dX12_clock_151 (lv_at hl 4 rfl) ?_
      refine lv_imul hx hb dX12_clock_153 ?_
      refine lv_bipush (v := (120 : Int32)) hx hb dX12_clock_154 (by decide) ?_
      refine lv_iload hx hb dX12_clock_156 (lv_at hl 3 rfl) ?_
      refine lv_imul hx hb dX12_clock_158 ?_
      refine lv_iadd hx hb dX12_clock_159 ?_
      refine lv_bipush (v := (60 : Int32)) hx hb dX12_clock_160 (by decide) ?_
      refine lv_isub hx hb dX12_clock_162 ?_
      obtain rfl := pe1 hf
      exact m_iret hx hb hr hlocks hP hS dX12_clock_163
    have hf := pbr_f c_1 hf
    refine lv_iload hx hb dX12_clock_84 (lv_at hl 5 rfl) ?_
    refine lv_iload_n hx hb dX12_clock_86 rfl (lv_at hl 1 rfl) ?_
    refine lv_icmp_ge (tgt := 103) hx hb dX12_clock_87 (by decide) (fun c_2 => ?_) (fun c_2 => ?_)
    · have hf := pbr_t c_2 hf
      refine lv_iload_n hx hb dX12_clock_103 rfl (lv_at hl 2 rfl) ?_
      refine lv_istore (lv' := [(7, .int x2), (0, .ref a0), (1, .int x1), (2, .int x2), (4, .int x4), (5, .int x5), (6, .int x6)]) hx hb dX12_clock_104 hl (by decide) rfl (fun ls hl => ?_)
      refine lv_iconst (v := (0 : Int32)) hx hb dX12_clock_106 (by decide) ?_
      refine lv_istore (lv' := [(8, .int (0 : Int32)), (7, .int x2), (0, .ref a0), (1, .int x1), (2, .int x2), (4, .int x4), (5, .int x5), (6, .int x6)]) hx hb dX12_clock_107 hl (by decide) rfl (fun ls hl => ?_)
      exact k_X12_clock_109 ⟨hx, hb, hml, hown, hts, hr, hlocks, hX⟩ hA ih FU x5 x6 x2 (0 : Int32) hf _ _ hP hD hS ls (lv_sub hl [2, 3, 4, 5, 6, 7, 1, 0] rfl)
    have hf := pbr_f c_2 hf
    refine lv_aload_n hx hb dX12_clock_90 rfl (lv_at hl 0 rfl) ?_
    refine va_get (D := D) (ci := 12) (v := .ref q_months) (C := RX12) (T := TX12) (N := 29) hx hb hts hn_X12_clock_X12 hown hK hP 0 rfl rfl 11 (by decide) (hts _ hw_X12_clock_f32) (fun _ h9 => h9) rfl dX12_clock_91 ?_
    refine lv_bipush (v := (14 : Int32)) hx hb dX12_clock_94 (by decide) ?_
    refine lv_iload hx hb dX12_clock_96 (lv_at hl 5 rfl) ?_
    refine lv_imul hx hb dX12_clock_98 ?_
    obtain ⟨g_3, hf⟩ := pgd_e hf
    refine va_iald hx hb hK hP 2 1 rfl rfl g_3 dX12_clock_99 ?_
    refine lv_goto (tgt := 104) hx hb dX12_clock_100 (by decide) ?_
    refine lv_topi (fun x7_4 ex7_4 => ?_)
    have hf := plt_e ex7_4 hf
    refine lv_istore (lv' := [(7, .int x7_4), (0, .ref a0), (1, .int x1), (2, .int x2), (4, .int x4), (5, .int x5), (6, .int x6)]) hx hb dX12_clock_104 hl (by decide) rfl (fun ls hl => ?_)
    refine lv_iconst (v := (0 : Int32)) hx hb dX12_clock_106 (by decide) ?_
    refine lv_istore (lv' := [(8, .int (0 : Int32)), (7, .int x7_4), (0, .ref a0), (1, .int x1), (2, .int x2), (4, .int x4), (5, .int x5), (6, .int x6)]) hx hb dX12_clock_107 hl (by decide) rfl (fun ls hl => ?_)
    exact k_X12_clock_109 ⟨hx, hb, hml, hown, hts, hr, hlocks, hX⟩ hA ih FU x5 x6 x7_4 (0 : Int32) hf _ _ hP hD hS ls (lv_sub hl [2, 3, 4, 5, 6, 7, 1, 0] rfl)

def f_X12_clock (x1 : Int32) (x2 : Int32) (x3 : Int32) (x4 : Int32) (s_years : Nat → Int32) (s_months : Nat → Int32) : Option ((Int32)) :=
  pcl (f_X12_in x1 (0 : Int32) ((s_years (0 : Int32).toNatClampNeg) - (1 : Int32))) (fun r_1 => (
  pbr (r_1 = 0)
    (some ((-1000000 : Int32)))
    (pgd (pin ((14 : Int32) * x1) 224) (
    pcl (f_X12_in x2 (0 : Int32) ((s_months ((14 : Int32) * x1).toNatClampNeg) - (1 : Int32))) (fun r_5 => (
    pbr (r_5 = 0)
      (some ((-1000000 : Int32)))
      (pgd (pin ((((14 : Int32) * x1) + (1 : Int32)) + x2) 224) (
      pcl (f_X12_in x3 (0 : Int32) ((s_months ((((14 : Int32) * x1) + (1 : Int32)) + x2).toNatClampNeg) - (1 : Int32))) (fun r_9 => (
      pbr (r_9 = 0)
        (some ((-1000000 : Int32)))
        (pcl (f_X12_in x4 (0 : Int32) (11 : Int32)) (fun r_12 => (
        pbr (r_12 = 0)
          (some ((-1000000 : Int32)))
          (f_X12_clock_78 s_years s_months x1 x2 x3 x4 FU x3 (0 : Int32)))))))))))))))

set_option maxRecDepth 100000 in
set_option maxHeartbeats 4000000 in
theorem ct_X12_clock (l : Launch) (D : va_G) (cA : Nat → ClassId) (x1 : Int32) (x2 : Int32) (x3 : Int32) (x4 : Int32) (a0 : Nat) (q_years : Nat) (q_months : Nat) (q_text : Nat) (q_depths : Nat) (q_tune : Nat) (q_far : Nat) (q_books : Nat) (q_told : Nat) (q_ring : Nat) (q_woods : Nat) (q_ends : Nat) (q_wood : Nat) (q_sheets : Nat) (q_marsh : Nat) (q_oldest : Nat) (q_youngest : Nat) (q_knowns : Nat) (q_known : Nat) (q_weight : Nat) (q_chance : Nat) (q_digs : Nat) (q_draft : Nat) (q_isKept : Nat) (s_trace : Int64) (s_typed : Int32) (s_earliest : Int32) (s_latest : Int32) (s_firstYear : Int32) (s_rings : Int32) (s_years : Nat → Int32) (s_months : Nat → Int32) (o_r : Int32) (hf : f_X12_clock x1 x2 x3 x4 s_years s_months = some o_r) : CT l yX12_clock wsX12_clock rm_X12_clock D cA [.ref a0, .int x1, .int x2, .int x3, .int x4] (w_X12_clock a0 q_years q_months q_text q_depths q_tune q_far q_books q_told q_ring q_woods q_ends q_wood q_sheets q_marsh q_oldest q_youngest q_knowns q_known q_weight q_chance q_digs q_draft q_isKept cA s_trace s_typed s_earliest s_latest s_firstYear s_rings s_years s_months) (w_X12_clock a0 q_years q_months q_text q_depths q_tune q_far q_books q_told q_ring q_woods q_ends q_wood q_sheets q_marsh q_oldest q_youngest q_knowns q_known q_weight q_chance q_digs q_draft q_isKept cA s_trace s_typed s_earliest s_latest s_firstYear s_rings s_years s_months) (some (.int o_r)) := by
  refine CT.ofW (cc := cX12_clock) (maxL := 9) (ret := (some .int)) (by decide +kernel) rfl (Nat.le_of_ble_eq_true rfl) ?_
  intro p e s m below meth c A C0 hA hP hD ls hl
  have C0 : MX p s m [.ref a0, .int x1, .int x2, .int x3, .int x4].toArray meth c cX12_clock 9 wsX12_clock RX12 (some .int) D cA := C0
  have hl : lv_has ls 9 [(0, .ref a0), (1, .int x1), (2, .int x2), (3, .int x3), (4, .int x4)] := hl
  obtain ⟨hx, hb, hml, hown, hts, hr, hlocks, hX⟩ := id C0
  have hK := hX.1
  have hN := hX.2
  have hS : va_S A s.heap s.heap [] := va_S.rf
  unfold f_X12_clock at hf
  refine lv_iload_n hx hb dX12_clock_0 rfl (lv_at hl 1 rfl) ?_
  refine lv_iconst (v := (0 : Int32)) hx hb dX12_clock_1 (by decide) ?_
  refine lv_aload_n hx hb dX12_clock_2 rfl (lv_at hl 0 rfl) ?_
  refine va_get (D := D) (ci := 12) (v := .ref q_years) (C := RX12) (T := TX12) (N := 29) hx hb hts hn_X12_clock_X12 hown hK hP 0 rfl rfl 10 (by decide) (hts _ hw_X12_clock_f29) (fun _ h9 => h9) rfl dX12_clock_3 ?_
  refine lv_iconst (v := (0 : Int32)) hx hb dX12_clock_6 (by decide) ?_
  refine va_iald hx hb hK hP 1 1 rfl rfl (show pin (0 : Int32) 2 by decide +kernel) dX12_clock_7 ?_
  refine lv_iconst (v := (1 : Int32)) hx hb dX12_clock_8 (by decide) ?_
  refine lv_isub hx hb dX12_clock_9 ?_
  obtain ⟨r_1, hc_2, hf⟩ := pcl_e hf
  refine m_callS2 (As := [.int x1, .int (0 : Int32), .int ((s_years (0 : Int32).toNatClampNeg) - (1 : Int32))]) (rest := []) ⟨hx, hb, hml, hown, hts⟩ hX (ct_X12_in l D cA x1 (0 : Int32) ((s_years (0 : Int32).toNatClampNeg) - (1 : Int32)) r_1 hc_2) (va_cwS 3 hts gX12_clock_X12_in rfl rfl rfl (by decide +kernel) ⟨Nat.le_of_ble_eq_true rfl, Nat.le_of_ble_eq_true rfl⟩) hP hD hS hA [] [0, 1, 2] 3 (by decide) rfl rfl (WS' := (w_X12_clock a0 q_years q_months q_text q_depths q_tune q_far q_books q_told q_ring q_woods q_ends q_wood q_sheets q_marsh q_oldest q_youngest q_knowns q_known q_weight q_chance q_digs q_draft q_isKept cA s_trace s_typed s_earliest s_latest s_firstYear s_rings s_years s_months)) (WR := [(a0, .inr (12, [.long s_trace, .ref q_text, .int s_typed, .ref q_depths, .ref q_tune, .ref q_far, .ref q_books, .ref q_told, .int s_earliest, .int s_latest, .ref q_years, .ref q_months, .int s_firstYear, .int s_rings, .ref q_ring, .ref q_woods, .ref q_ends, .ref q_wood, .ref q_sheets, .ref q_marsh, .ref q_oldest, .ref q_youngest, .ref q_knowns, .ref q_known, .ref q_weight, .ref q_chance, .ref q_digs, .ref q_draft, .ref q_isKept])), (q_years, .inl (cA 1, 2, .inl s_years)), (q_months, .inl (cA 1, 224, .inl s_months))]) rfl rfl rfl rfl (by decide) (by decide) rfl hl.1 rfl (st' := [.int r_1]) rfl (Nat.le_of_ble_eq_true rfl) ⟨Nat.zero_le _, Nat.zero_le _⟩ dX12_clock_10 (fun H locs hP hD hS => ?_)
  refine lv_if_eq (tgt := 69) hx hb dX12_clock_13 (by decide) (fun c_3 => ?_) (fun c_3 => ?_)
  · have hf := pbr_t c_3 hf
    refine lv_ldc (v := (-1000000 : Int32)) hx hb hown (hts _ hw_X12_clock_c122) dX12_clock_69 ?_
    obtain rfl := pe1 hf
    exact m_iret hx hb hr hlocks hP hS dX12_clock_71
  have hf := pbr_f c_3 hf
  refine lv_iload_n hx hb dX12_clock_16 rfl (lv_at hl 2 rfl) ?_
  refine lv_iconst (v := (0 : Int32)) hx hb dX12_clock_17 (by decide) ?_
  refine lv_aload_n hx hb dX12_clock_18 rfl (lv_at hl 0 rfl) ?_
  refine va_get (D := D) (ci := 12) (v := .ref q_months) (C := RX12) (T := TX12) (N := 29) hx hb hts hn_X12_clock_X12 hown hK hP 0 rfl rfl 11 (by decide) (hts _ hw_X12_clock_f32) (fun _ h9 => h9) rfl dX12_clock_19 ?_
  refine lv_bipush (v := (14 : Int32)) hx hb dX12_clock_22 (by decide) ?_
  refine lv_iload_n hx hb dX12_clock_24 rfl (lv_at hl 1 rfl) ?_
  refine lv_imul hx hb dX12_clock_25 ?_
  obtain ⟨g_4, hf⟩ := pgd_e hf
  refine va_iald hx hb hK hP 2 1 rfl rfl g_4 dX12_clock_26 ?_
  refine lv_iconst (v := (1 : Int32)) hx hb dX12_clock_27 (by decide) ?_
  refine lv_isub hx hb dX12_clock_28 ?_
  obtain ⟨r_5, hc_6, hf⟩ := pcl_e hf
  refine m_callS2 (As := [.int x2, .int (0 : Int32), .int ((s_months ((14 : Int32) * x1).toNatClampNeg) - (1 : Int32))]) (rest := []) ⟨hx, hb, hml, hown, hts⟩ hX (ct_X12_in l D cA x2 (0 : Int32) ((s_months ((14 : Int32) * x1).toNatClampNeg) - (1 : Int32)) r_5 hc_6) (va_cwS 3 hts gX12_clock_X12_in rfl rfl rfl (by decide +kernel) ⟨Nat.le_of_ble_eq_true rfl, Nat.le_of_ble_eq_true rfl⟩) hP hD hS hA [] [0, 1, 2] 3 (by decide) rfl rfl (WS' := (w_X12_clock a0 q_years q_months q_text q_depths q_tune q_far q_books q_told q_ring q_woods q_ends q_wood q_sheets q_marsh q_oldest q_youngest q_knowns q_known q_weight q_chance q_digs q_draft q_isKept cA s_trace s_typed s_earliest s_latest s_firstYear s_rings s_years s_months)) (WR := [(a0, .inr (12, [.long s_trace, .ref q_text, .int s_typed, .ref q_depths, .ref q_tune, .ref q_far, .ref q_books, .ref q_told, .int s_earliest, .int s_latest, .ref q_years, .ref q_months, .int s_firstYear, .int s_rings, .ref q_ring, .ref q_woods, .ref q_ends, .ref q_wood, .ref q_sheets, .ref q_marsh, .ref q_oldest, .ref q_youngest, .ref q_knowns, .ref q_known, .ref q_weight, .ref q_chance, .ref q_digs, .ref q_draft, .ref q_isKept])), (q_years, .inl (cA 1, 2, .inl s_years)), (q_months, .inl (cA 1, 224, .inl s_months))]) rfl rfl rfl rfl (by decide) (by decide) rfl hl.1 rfl (st' := [.int r_5]) rfl (Nat.le_of_ble_eq_true rfl) ⟨Nat.zero_le _, Nat.zero_le _⟩ dX12_clock_29 (fun H locs hP hD hS => ?_)
  refine lv_if_eq (tgt := 69) hx hb dX12_clock_32 (by decide) (fun c_7 => ?_) (fun c_7 => ?_)
  · have hf := pbr_t c_7 hf
    refine lv_ldc (v := (-1000000 : Int32)) hx hb hown (hts _ hw_X12_clock_c122) dX12_clock_69 ?_
    obtain rfl := pe1 hf
    exact m_iret hx hb hr hlocks hP hS dX12_clock_71
  have hf := pbr_f c_7 hf
  refine lv_iload_n hx hb dX12_clock_35 rfl (lv_at hl 3 rfl) ?_
  refine lv_iconst (v := (0 : Int32)) hx hb dX12_clock_36 (by decide) ?_
  refine lv_aload_n hx hb dX12_clock_37 rfl (lv_at hl 0 rfl) ?_
  refine va_get (D := D) (ci := 12) (v := .ref q_months) (C := RX12) (T := TX12) (N := 29) hx hb hts hn_X12_clock_X12 hown hK hP 0 rfl rfl 11 (by decide) (hts _ hw_X12_clock_f32) (fun _ h9 => h9) rfl dX12_clock_38 ?_
  refine lv_bipush (v := (14 : Int32)) hx hb dX12_clock_41 (by decide) ?_
  refine lv_iload_n hx hb dX12_clock_43 rfl (lv_at hl 1 rfl) ?_
  refine lv_imul hx hb dX12_clock_44 ?_
  refine lv_iconst (v := (1 : Int32)) hx hb dX12_clock_45 (by decide) ?_
  refine lv_iadd hx hb dX12_clock_46 ?_
  refine lv_iload_n hx hb dX12_clock_47 rfl (lv_at hl 2 rfl) ?_
  refine lv_iadd hx hb dX12_clock_48 ?_
  obtain ⟨g_8, hf⟩ := pgd_e hf
  refine va_iald hx hb hK hP 2 1 rfl rfl g_8 dX12_clock_49 ?_
  refine lv_iconst (v := (1 : Int32)) hx hb dX12_clock_50 (by decide) ?_
  refine lv_isub hx hb dX12_clock_51 ?_
  obtain ⟨r_9, hc_10, hf⟩ := pcl_e hf
  refine m_callS2 (As := [.int x3, .int (0 : Int32), .int ((s_months ((((14 : Int32) * x1) + (1 : Int32)) + x2).toNatClampNeg) - (1 : Int32))]) (rest := []) ⟨hx, hb, hml, hown, hts⟩ hX (ct_X12_in l D cA x3 (0 : Int32) ((s_months ((((14 : Int32) * x1) + (1 : Int32)) + x2).toNatClampNeg) - (1 : Int32)) r_9 hc_10) (va_cwS 3 hts gX12_clock_X12_in rfl rfl rfl (by decide +kernel) ⟨Nat.le_of_ble_eq_true rfl, Nat.le_of_ble_eq_true rfl⟩) hP hD hS hA [] [0, 1, 2] 3 (by decide) rfl rfl (WS' := (w_X12_clock a0 q_years q_months q_text q_depths q_tune q_far q_books q_told q_ring q_woods q_ends q_wood q_sheets q_marsh q_oldest q_youngest q_knowns q_known q_weight q_chance q_digs q_draft q_isKept cA s_trace s_typed s_earliest s_latest s_firstYear s_rings s_years s_months)) (WR := [(a0, .inr (12, [.long s_trace, .ref q_text, .int s_typed, .ref q_depths, .ref q_tune, .ref q_far, .ref q_books, .ref q_told, .int s_earliest, .int s_latest, .ref q_years, .ref q_months, .int s_firstYear, .int s_rings, .ref q_ring, .ref q_woods, .ref q_ends, .ref q_wood, .ref q_sheets, .ref q_marsh, .ref q_oldest, .ref q_youngest, .ref q_knowns, .ref q_known, .ref q_weight, .ref q_chance, .ref q_digs, .ref q_draft, .ref q_isKept])), (q_years, .inl (cA 1, 2, .inl s_years)), (q_months, .inl (cA 1, 224, .inl s_months))]) rfl rfl rfl rfl (by decide) (by decide) rfl hl.1 rfl (st' := [.int r_9]) rfl (Nat.le_of_ble_eq_true rfl) ⟨Nat.zero_le _, Nat.zero_le _⟩ dX12_clock_52 (fun H locs hP hD hS => ?_)
  refine lv_if_eq (tgt := 69) hx hb dX12_clock_55 (by decide) (fun c_11 => ?_) (fun c_11 => ?_)
  · have hf := pbr_t c_11 hf
    refine lv_ldc (v := (-1000000 : Int32)) hx hb hown (hts _ hw_X12_clock_c122) dX12_clock_69 ?_
    obtain rfl := pe1 hf
    exact m_iret hx hb hr hlocks hP hS dX12_clock_71
  have hf := pbr_f c_11 hf
  refine lv_iload hx hb dX12_clock_58 (lv_at hl 4 rfl) ?_
  refine lv_iconst (v := (0 : Int32)) hx hb dX12_clock_60 (by decide) ?_
  refine lv_bipush (v := (11 : Int32)) hx hb dX12_clock_61 (by decide) ?_
  obtain ⟨r_12, hc_13, hf⟩ := pcl_e hf
  refine m_callS2 (As := [.int x4, .int (0 : Int32), .int (11 : Int32)]) (rest := []) ⟨hx, hb, hml, hown, hts⟩ hX (ct_X12_in l D cA x4 (0 : Int32) (11 : Int32) r_12 hc_13) (va_cwS 3 hts gX12_clock_X12_in rfl rfl rfl (by decide +kernel) ⟨Nat.le_of_ble_eq_true rfl, Nat.le_of_ble_eq_true rfl⟩) hP hD hS hA [] [0, 1, 2] 3 (by decide) rfl rfl (WS' := (w_X12_clock a0 q_years q_months q_text q_depths q_tune q_far q_books q_told q_ring q_woods q_ends q_wood q_sheets q_marsh q_oldest q_youngest q_knowns q_known q_weight q_chance q_digs q_draft q_isKept cA s_trace s_typed s_earliest s_latest s_firstYear s_rings s_years s_months)) (WR := [(a0, .inr (12, [.long s_trace, .ref q_text, .int s_typed, .ref q_depths, .ref q_tune, .ref q_far, .ref q_books, .ref q_told, .int s_earliest, .int s_latest, .ref q_years, .ref q_months, .int s_firstYear, .int s_rings, .ref q_ring, .ref q_woods, .ref q_ends, .ref q_wood, .ref q_sheets, .ref q_marsh, .ref q_oldest, .ref q_youngest, .ref q_knowns, .ref q_known, .ref q_weight, .ref q_chance, .ref q_digs, .ref q_draft, .ref q_isKept])), (q_years, .inl (cA 1, 2, .inl s_years)), (q_months, .inl (cA 1, 224, .inl s_months))]) rfl rfl rfl rfl (by decide) (by decide) rfl hl.1 rfl (st' := [.int r_12]) rfl (Nat.le_of_ble_eq_true rfl) ⟨Nat.zero_le _, Nat.zero_le _⟩ dX12_clock_63 (fun H locs hP hD hS => ?_)
  refine lv_if_ne (tgt := 72) hx hb dX12_clock_66 (by decide) (fun c_14 => ?_) (fun c_14 => ?_)
  · have hf := pbr_f c_14 hf
    refine lv_iload_n hx hb dX12_clock_72 rfl (lv_at hl 3 rfl) ?_
    refine lv_istore (lv' := [(5, .int x3), (0, .ref a0), (1, .int x1), (2, .int x2), (3, .int x3), (4, .int x4)]) hx hb dX12_clock_73 hl (by decide) rfl (fun ls hl => ?_)
    refine lv_iconst (v := (0 : Int32)) hx hb dX12_clock_75 (by decide) ?_
    refine lv_istore (lv' := [(6, .int (0 : Int32)), (5, .int x3), (0, .ref a0), (1, .int x1), (2, .int x2), (3, .int x3), (4, .int x4)]) hx hb dX12_clock_76 hl (by decide) rfl (fun ls hl => ?_)
    exact k_X12_clock_78 C0 hA FU x3 (0 : Int32) hf _ _ hP hD hS ls (lv_sub hl [2, 3, 4, 6, 1, 0] rfl)
  have hf := pbr_t c_14 hf
  refine lv_ldc (v := (-1000000 : Int32)) hx hb hown (hts _ hw_X12_clock_c122) dX12_clock_69 ?_
  obtain rfl := pe1 hf
  exact m_iret hx hb hr hlocks hP hS dX12_clock_71

/-! ===== OrphanWaveModel.told(II)I ===== -/
abbrev rm_X12_told : Room := { frames := 1, cells := 0, slots := 0, locals := 22 }
abbrev w_X12_told (a0 : Nat) (q_years : Nat) (q_months : Nat) (q_text : Nat) (q_depths : Nat) (q_tune : Nat) (q_far : Nat) (q_books : Nat) (q_told : Nat) (q_ring : Nat) (q_woods : Nat) (q_ends : Nat) (q_wood : Nat) (q_sheets : Nat) (q_marsh : Nat) (q_oldest : Nat) (q_youngest : Nat) (q_knowns : Nat) (q_known : Nat) (q_weight : Nat) (q_chance : Nat) (q_digs : Nat) (q_draft : Nat) (q_isKept : Nat) (cA : Nat → ClassId) (s_trace : Int64) (s_typed : Int32) (s_earliest : Int32) (s_latest : Int32) (s_firstYear : Int32) (s_rings : Int32) (s_years : Nat → Int32) (s_months : Nat → Int32) : va_W := [(a0, .inr (12, [.long s_trace, .ref q_text, .int s_typed, .ref q_depths, .ref q_tune, .ref q_far, .ref q_books, .ref q_told, .int s_earliest, .int s_latest, .ref q_years, .ref q_months, .int s_firstYear, .int s_rings, .ref q_ring, .ref q_woods, .ref q_ends, .ref q_wood, .ref q_sheets, .ref q_marsh, .ref q_oldest, .ref q_youngest, .ref q_knowns, .ref q_known, .ref q_weight, .ref q_chance, .ref q_digs, .ref q_draft, .ref q_isKept])), (q_years, .inl (cA 1, 2, .inl s_years)), (q_months, .inl (cA 1, 224, .inl s_months))]
theorem hn_X12_told_X12 : ∀ w ∈ u_ws RX12 TX12 29, w ∈ wsX12_told := by decide +kernel
theorem hw_X12_told_c122 : Cond.constant RX12 122 (-1000000) ∈ wsX12_told := by decide +kernel
theorem hw_X12_told_f29 : Cond.fieldLink RX12 29 "OrphanWaveModel" "years" "[I" ∈ wsX12_told := by decide +kernel
theorem hw_X12_told_f32 : Cond.fieldLink RX12 32 "OrphanWaveModel" "months" "[I" ∈ wsX12_told := by decide +kernel

def f_X12_told_61 (r47 : (Int32) → (Int32) → (Int32) → Option ((Int32))) (s_years : Nat → Int32) (s_months : Nat → Int32) (x1 : Int32) (x2 : Int32) : Nat → (Int32) → (Int32) → (Int32) → (Int32) → Option ((Int32))
  | 0, _, _, _, _ => none
  | k + 1, x3, x4, x5, x6 =>
    pgd (pin ((14 : Int32) * x5) 224) (
    pbr ((s_months ((14 : Int32) * x5).toNatClampNeg) ≤ x6)
      (plt (x5 + (1 : Int32) : Int32) (fun x5_3 => (
      r47 x3 x4 x5_3)))
      (pgd (pin ((((14 : Int32) * x5) + (1 : Int32)) + x6) 224) (
      plt ((s_months ((((14 : Int32) * x5) + (1 : Int32)) + x6).toNatClampNeg) : Int32) (fun x7_5 => (
      pbr (x7_5 ≤ x4)
        (plt ((x4 - x7_5) : Int32) (fun x4_7 => (
        plt (x6 + (1 : Int32) : Int32) (fun x6_8 => (
        (f_X12_told_61 r47 s_years s_months x1 x2 k) x3 x4_7 x5 x6_8)))))
        (pbr (x2 = 0)
          (some (x5))
          (pbr (x2 = (1 : Int32))
            (some (x6))
            (pbr (x2 = (2 : Int32))
              (some (x4))
              (some ((x3 - x3 / (12 : Int32) * (12 : Int32))))))))))))

set_option maxRecDepth 100000 in
set_option maxHeartbeats 4000000 in
theorem k_X12_told_61 {p : Program} {l : Launch} {e : Env} {s : State} {m : MethodId} {args : Array Value} {below : List Frame} {meth : Method} {c : Code} {A : Nat → Prop} {D : va_G} {cA : Nat → ClassId} (C0 : MX p s m args meth c cX12_told 8 wsX12_told RX12 (some .int) D cA) (hA : ∀ q, s.heap.size ≤ q → A q) {a0 : Nat} {q_years : Nat} {q_months : Nat} {q_text : Nat} {q_depths : Nat} {q_tune : Nat} {q_far : Nat} {q_books : Nat} {q_told : Nat} {q_ring : Nat} {q_woods : Nat} {q_ends : Nat} {q_wood : Nat} {q_sheets : Nat} {q_marsh : Nat} {q_oldest : Nat} {q_youngest : Nat} {q_knowns : Nat} {q_known : Nat} {q_weight : Nat} {q_chance : Nat} {q_digs : Nat} {q_draft : Nat} {q_isKept : Nat} {s_trace : Int64} {s_typed : Int32} {s_earliest : Int32} {s_latest : Int32} {s_firstYear : Int32} {s_rings : Int32} {s_years : Nat → Int32} {s_months : Nat → Int32} {x1 : Int32} {x2 : Int32} {o_r : Int32} {r47 : (Int32) → (Int32) → (Int32) → Option ((Int32))} (hr47 : ∀ (x3 : Int32) (x4 : Int32) (x5 : Int32), r47 x3 x4 x5 = some o_r → ∀ (H : Heap) (locs : List Loc), va_P D vwCl (w_X12_told a0 q_years q_months q_text q_depths q_tune q_far q_books q_told q_ring q_woods q_ends q_wood q_sheets q_marsh q_oldest q_youngest q_knowns q_known q_weight q_chance q_digs q_draft q_isKept cA s_trace s_typed s_earliest s_latest s_firstYear s_rings s_years s_months) H → va_D A (w_X12_told a0 q_years q_months q_text q_depths q_tune q_far q_books q_told q_ring q_woods q_ends q_wood q_sheets q_marsh q_oldest q_youngest q_knowns q_known q_weight q_chance q_digs q_draft q_isKept cA s_trace s_typed s_earliest s_latest s_firstYear s_rings s_years s_months) → va_S A s.heap H locs → ∀ ls : Array Slot, lv_has ls 8 [(0, .ref a0), (2, .int x2), (3, .int x3), (4, .int x4), (5, .int x5)] → W p l e rm_X12_told s m args below meth c H locs 0 0 (MQ below (CQ D (some (.int o_r)) (w_X12_told a0 q_years q_months q_text q_depths q_tune q_far q_books q_told q_ring q_woods q_ends q_wood q_sheets q_marsh q_oldest q_youngest q_knowns q_known q_weight q_chance q_digs q_draft q_isKept cA s_trace s_typed s_earliest s_latest s_firstYear s_rings s_years s_months) A) args s 0 0 A) (F0 m 47 ls [])) : ∀ (k : Nat) (x3 : Int32) (x4 : Int32) (x5 : Int32) (x6 : Int32), f_X12_told_61 r47 s_years s_months x1 x2 k x3 x4 x5 x6 = some o_r → ∀ (H : Heap) (locs : List Loc), va_P D vwCl (w_X12_told a0 q_years q_months q_text q_depths q_tune q_far q_books q_told q_ring q_woods q_ends q_wood q_sheets q_marsh q_oldest q_youngest q_knowns q_known q_weight q_chance q_digs q_draft q_isKept cA s_trace s_typed s_earliest s_latest s_firstYear s_rings s_years s_months) H → va_D A (w_X12_told a0 q_years q_months q_text q_depths q_tune q_far q_books q_told q_ring q_woods q_ends q_wood q_sheets q_marsh q_oldest q_youngest q_knowns q_known q_weight q_chance q_digs q_draft q_isKept cA s_trace s_typed s_earliest s_latest s_firstYear s_rings s_years s_months) → va_S A s.heap H locs → ∀ ls : Array Slot, lv_has ls 8 [(0, .ref a0), (2, .int x2), (3, .int x3), (4, .int x4), (5, .int x5), (6, .int x6)] → W p l e rm_X12_told s m args below meth c H locs 0 0 (MQ below (CQ D (some (.int o_r)) (w_X12_told a0 q_years q_months q_text q_depths q_tune q_far q_books q_told q_ring q_woods q_ends q_wood q_sheets q_marsh q_oldest q_youngest q_knowns q_known q_weight q_chance q_digs q_draft q_isKept cA s_trace s_typed s_earliest s_latest s_firstYear s_rings s_years s_months) A) args s 0 0 A) (F0 m 61 ls []) := by
  obtain ⟨hx, hb, hml, hown, hts, hr, hlocks, hX⟩ := C0
  have hK := hX.1
  have hN := hX.2
  intro k
  induction k with
  | zero =>
    intro x3 x4 x5 x6 hf
    cases hf
  | succ k ih =>
    intro x3 x4 x5 x6 hf H locs hP hD hS ls hl
    rw [f_X12_told_61] at hf
    refine lv_iload hx hb dX12_told_61 (lv_at hl 5 rfl) ?_
    refine lv_aload_n hx hb dX12_told_63 rfl (lv_at hl 0 rfl) ?_
    refine va_get (D := D) (ci := 12) (v := .ref q_months) (C := RX12) (T := TX12) (N := 29) hx hb hts hn_X12_told_X12 hown hK hP 0 rfl rfl 11 (by decide) (hts _ hw_X12_told_f32) (fun _ h9 => h9) rfl dX12_told_64 ?_
    refine lv_bipush (v := (14 : Int32)) hx hb dX12_told_67 (by decide) ?_
    refine lv_iload hx hb dX12_told_69 (lv_at hl 4 rfl) ?_
    refine lv_imul hx hb dX12_told_71 ?_
    obtain ⟨g_1, hf⟩ := pgd_e hf
    refine va_iald hx hb hK hP 2 1 rfl rfl g_1 dX12_told_72 ?_
    refine lv_icmp_ge (tgt := 147) hx hb dX12_told_73 (by decide) (fun c_2 => ?_) (fun c_2 => ?_)
    · have hf := pbr_t c_2 hf
      obtain ⟨x5_3, ex5_3⟩ : ∃ z : Int32, z = x5 + (1 : Int32) := ⟨_, rfl⟩
      have hf := plt_e ex5_3 hf
      refine lv_iinc (v := x5_3) (lv' := [(5, .int x5_3), (0, .ref a0), (2, .int x2), (3, .int x3), (4, .int x4), (6, .int x6)]) hx hb dX12_told_147 hl (k := 4) rfl (by rw [ex5_3]; rfl) (by decide) rfl (fun ls hl => ?_)
      refine lv_goto (tgt := 47) hx hb dX12_told_150 (by decide) ?_
      exact hr47 x3 x4 x5_3 hf _ _ hP hD hS ls (lv_sub hl [1, 2, 3, 4, 0] rfl)
    have hf := pbr_f c_2 hf
    refine lv_aload_n hx hb dX12_told_76 rfl (lv_at hl 0 rfl) ?_
    refine va_get (D := D) (ci := 12) (v := .ref q_months) (C := RX12) (T := TX12) (N := 29) hx hb hts hn_X12_told_X12 hown hK hP 0 rfl rfl 11 (by decide) (hts _ hw_X12_told_f32) (fun _ h9 => h9) rfl dX12_told_77 ?_
    refine lv_bipush (v := (14 : Int32)) hx hb dX12_told_80 (by decide) ?_
    refine lv_iload hx hb dX12_told_82 (lv_at hl 4 rfl) ?_
    refine lv_imul hx hb dX12_told_84 ?_
    refine lv_iconst (v := (1 : Int32)) hx hb dX12_told_85 (by decide) ?_
    refine lv_iadd hx hb dX12_told_86 ?_
    refine lv_iload hx hb dX12_told_87 (lv_at hl 5 rfl) ?_
    refine lv_iadd hx hb dX12_told_89 ?_
    obtain ⟨g_4, hf⟩ := pgd_e hf
    refine va_iald hx hb hK hP 2 1 rfl rfl g_4 dX12_told_90 ?_
    refine lv_topi (fun x7_5 ex7_5 => ?_)
    have hf := plt_e ex7_5 hf
    refine lv_istore (lv' := [(7, .int x7_5), (0, .ref a0), (2, .int x2), (3, .int x3), (4, .int x4), (5, .int x5), (6, .int x6)]) hx hb dX12_told_91 hl (by decide) rfl (fun ls hl => ?_)
    refine lv_iload hx hb dX12_told_93 (lv_at hl 4 rfl) ?_
    refine lv_iload hx hb dX12_told_95 (lv_at hl 0 rfl) ?_
    refine lv_icmp_ge (tgt := 134) hx hb dX12_told_97 (by decide) (fun c_6 => ?_) (fun c_6 => ?_)
    · have hf := pbr_t c_6 hf
      refine lv_iload hx hb dX12_told_134 (lv_at hl 4 rfl) ?_
      refine lv_iload hx hb dX12_told_136 (lv_at hl 0 rfl) ?_
      refine lv_isub hx hb dX12_told_138 ?_
      refine lv_topi (fun x4_7 ex4_7 => ?_)
      have hf := plt_e ex4_7 hf
      refine lv_istore (lv' := [(4, .int x4_7), (7, .int x7_5), (0, .ref a0), (2, .int x2), (3, .int x3), (5, .int x5), (6, .int x6)]) hx hb dX12_told_139 hl (by decide) rfl (fun ls hl => ?_)
      obtain ⟨x6_8, ex6_8⟩ : ∃ z : Int32, z = x6 + (1 : Int32) := ⟨_, rfl⟩
      have hf := plt_e ex6_8 hf
      refine lv_iinc (v := x6_8) (lv' := [(6, .int x6_8), (4, .int x4_7), (7, .int x7_5), (0, .ref a0), (2, .int x2), (3, .int x3), (5, .int x5)]) hx hb dX12_told_141 hl (k := 6) rfl (by rw [ex6_8]; rfl) (by decide) rfl (fun ls hl => ?_)
      refine lv_goto (tgt := 61) hx hb dX12_told_144 (by decide) ?_
      exact ih x3 x4_7 x5 x6_8 hf _ _ hP hD hS ls (lv_sub hl [3, 4, 5, 1, 6, 0] rfl)
    have hf := pbr_f c_6 hf
    refine lv_iload_n hx hb dX12_told_100 rfl (lv_at hl 2 rfl) ?_
    refine lv_if_ne (tgt := 109) hx hb dX12_told_101 (by decide) (fun c_9 => ?_) (fun c_9 => ?_)
    · have hf := pbr_f c_9 hf
      refine lv_iload_n hx hb dX12_told_109 rfl (lv_at hl 2 rfl) ?_
      refine lv_iconst (v := (1 : Int32)) hx hb dX12_told_110 (by decide) ?_
      refine lv_icmp_ne (tgt := 119) hx hb dX12_told_111 (by decide) (fun c_10 => ?_) (fun c_10 => ?_)
      · have hf := pbr_f c_10 hf
        refine lv_iload_n hx hb dX12_told_119 rfl (lv_at hl 2 rfl) ?_
        refine lv_iconst (v := (2 : Int32)) hx hb dX12_told_120 (by decide) ?_
        refine lv_icmp_ne (tgt := 129) hx hb dX12_told_121 (by decide) (fun c_11 => ?_) (fun c_11 => ?_)
        · have hf := pbr_f c_11 hf
          refine lv_iload_n hx hb dX12_told_129 rfl (lv_at hl 3 rfl) ?_
          refine lv_bipush (v := (12 : Int32)) hx hb dX12_told_130 (by decide) ?_
          refine lv_irem hx hb dX12_told_132 (by decide) ?_
          obtain rfl := pe1 hf
          exact m_iret hx hb hr hlocks hP hS dX12_told_133
        have hf := pbr_t c_11 hf
        refine lv_iload hx hb dX12_told_124 (lv_at hl 4 rfl) ?_
        refine lv_goto (tgt := 133) hx hb dX12_told_126 (by decide) ?_
        obtain rfl := pe1 hf
        exact m_iret hx hb hr hlocks hP hS dX12_told_133
      have hf := pbr_t c_10 hf
      refine lv_iload hx hb dX12_told_114 (lv_at hl 6 rfl) ?_
      refine lv_goto (tgt := 133) hx hb dX12_told_116 (by decide) ?_
      obtain rfl := pe1 hf
      exact m_iret hx hb hr hlocks hP hS dX12_told_133
    have hf := pbr_t c_9 hf
    refine lv_iload hx hb dX12_told_104 (lv_at hl 5 rfl) ?_
    refine lv_goto (tgt := 133) hx hb dX12_told_106 (by decide) ?_
    obtain rfl := pe1 hf
    exact m_iret hx hb hr hlocks hP hS dX12_told_133

def f_X12_told_47 (s_years : Nat → Int32) (s_months : Nat → Int32) (x1 : Int32) (x2 : Int32) : Nat → (Int32) → (Int32) → (Int32) → Option ((Int32))
  | 0, _, _, _ => none
  | k + 1, x3, x4, x5 =>
    pbr ((s_years (0 : Int32).toNatClampNeg) ≤ x5)
      (some ((-1000000 : Int32)))
      (f_X12_told_61 (f_X12_told_47 s_years s_months x1 x2 k) s_years s_months x1 x2 FU x3 x4 x5 (0 : Int32))

set_option maxRecDepth 100000 in
set_option maxHeartbeats 4000000 in
theorem k_X12_told_47 {p : Program} {l : Launch} {e : Env} {s : State} {m : MethodId} {args : Array Value} {below : List Frame} {meth : Method} {c : Code} {A : Nat → Prop} {D : va_G} {cA : Nat → ClassId} (C0 : MX p s m args meth c cX12_told 8 wsX12_told RX12 (some .int) D cA) (hA : ∀ q, s.heap.size ≤ q → A q) {a0 : Nat} {q_years : Nat} {q_months : Nat} {q_text : Nat} {q_depths : Nat} {q_tune : Nat} {q_far : Nat} {q_books : Nat} {q_told : Nat} {q_ring : Nat} {q_woods : Nat} {q_ends : Nat} {q_wood : Nat} {q_sheets : Nat} {q_marsh : Nat} {q_oldest : Nat} {q_youngest : Nat} {q_knowns : Nat} {q_known : Nat} {q_weight : Nat} {q_chance : Nat} {q_digs : Nat} {q_draft : Nat} {q_isKept : Nat} {s_trace : Int64} {s_typed : Int32} {s_earliest : Int32} {s_latest : Int32} {s_firstYear : Int32} {s_rings : Int32} {s_years : Nat → Int32} {s_months : Nat → Int32} {x1 : Int32} {x2 : Int32} {o_r : Int32} : ∀ (k : Nat) (x3 : Int32) (x4 : Int32) (x5 : Int32), f_X12_told_47 s_years s_months x1 x2 k x3 x4 x5 = some o_r → ∀ (H : Heap) (locs : List Loc), va_P D vwCl (w_X12_told a0 q_years q_months q_text q_depths q_tune q_far q_books q_told q_ring q_woods q_ends q_wood q_sheets q_marsh q_oldest q_youngest q_knowns q_known q_weight q_chance q_digs q_draft q_isKept cA s_trace s_typed s_earliest s_latest s_firstYear s_rings s_years s_months) H → va_D A (w_X12_told a0 q_years q_months q_text q_depths q_tune q_far q_books q_told q_ring q_woods q_ends q_wood q_sheets q_marsh q_oldest q_youngest q_knowns q_known q_weight q_chance q_digs q_draft q_isKept cA s_trace s_typed s_earliest s_latest s_firstYear s_rings s_years s_months) → va_S A s.heap H locs → ∀ ls : Array Slot, lv_has ls 8 [(0, .ref a0), (2, .int x2), (3, .int x3), (4, .int x4), (5, .int x5)] → W p l e rm_X12_told s m args below meth c H locs 0 0 (MQ below (CQ D (some (.int o_r)) (w_X12_told a0 q_years q_months q_text q_depths q_tune q_far q_books q_told q_ring q_woods q_ends q_wood q_sheets q_marsh q_oldest q_youngest q_knowns q_known q_weight q_chance q_digs q_draft q_isKept cA s_trace s_typed s_earliest s_latest s_firstYear s_rings s_years s_months) A) args s 0 0 A) (F0 m 47 ls []) := by
  obtain ⟨hx, hb, hml, hown, hts, hr, hlocks, hX⟩ := C0
  have hK := hX.1
  have hN := hX.2
  intro k
  induction k with
  | zero =>
    intro x3 x4 x5 hf
    cases hf
  | succ k ih =>
    intro x3 x4 x5 hf H locs hP hD hS ls hl
    rw [f_X12_told_47] at hf
    refine lv_iload hx hb dX12_told_47 (lv_at hl 4 rfl) ?_
    refine lv_aload_n hx hb dX12_told_49 rfl (lv_at hl 0 rfl) ?_
    refine va_get (D := D) (ci := 12) (v := .ref q_years) (C := RX12) (T := TX12) (N := 29) hx hb hts hn_X12_told_X12 hown hK hP 0 rfl rfl 10 (by decide) (hts _ hw_X12_told_f29) (fun _ h9 => h9) rfl dX12_told_50 ?_
    refine lv_iconst (v := (0 : Int32)) hx hb dX12_told_53 (by decide) ?_
    refine va_iald hx hb hK hP 1 1 rfl rfl (show pin (0 : Int32) 2 by decide +kernel) dX12_told_54 ?_
    refine lv_icmp_ge (tgt := 153) hx hb dX12_told_55 (by decide) (fun c_1 => ?_) (fun c_1 => ?_)
    · have hf := pbr_t c_1 hf
      refine lv_ldc (v := (-1000000 : Int32)) hx hb hown (hts _ hw_X12_told_c122) dX12_told_153 ?_
      obtain rfl := pe1 hf
      exact m_iret hx hb hr hlocks hP hS dX12_told_155
    have hf := pbr_f c_1 hf
    refine lv_iconst (v := (0 : Int32)) hx hb dX12_told_58 (by decide) ?_
    refine lv_istore (lv' := [(6, .int (0 : Int32)), (0, .ref a0), (2, .int x2), (3, .int x3), (4, .int x4), (5, .int x5)]) hx hb dX12_told_59 hl (by decide) rfl (fun ls hl => ?_)
    exact k_X12_told_61 ⟨hx, hb, hml, hown, hts, hr, hlocks, hX⟩ hA ih FU x3 x4 x5 (0 : Int32) hf _ _ hP hD hS ls (lv_sub hl [1, 2, 3, 4, 5, 0] rfl)

def f_X12_told_36 (s_years : Nat → Int32) (s_months : Nat → Int32) (x1 : Int32) (x2 : Int32) (z0 : Int32) (z1 : Int32) : Option ((Int32)) :=
  plt ((z0 + z1) : Int32) (fun x3_1 => (
  plt ((x3_1 / (12 : Int32)) : Int32) (fun x4_2 => (
  f_X12_told_47 s_years s_months x1 x2 FU x3_1 x4_2 (0 : Int32)))))

set_option maxRecDepth 100000 in
set_option maxHeartbeats 4000000 in
theorem k_X12_told_36 {p : Program} {l : Launch} {e : Env} {s : State} {m : MethodId} {args : Array Value} {below : List Frame} {meth : Method} {c : Code} {A : Nat → Prop} {D : va_G} {cA : Nat → ClassId} (C0 : MX p s m args meth c cX12_told 8 wsX12_told RX12 (some .int) D cA) (hA : ∀ q, s.heap.size ≤ q → A q) {a0 : Nat} {q_years : Nat} {q_months : Nat} {q_text : Nat} {q_depths : Nat} {q_tune : Nat} {q_far : Nat} {q_books : Nat} {q_told : Nat} {q_ring : Nat} {q_woods : Nat} {q_ends : Nat} {q_wood : Nat} {q_sheets : Nat} {q_marsh : Nat} {q_oldest : Nat} {q_youngest : Nat} {q_knowns : Nat} {q_known : Nat} {q_weight : Nat} {q_chance : Nat} {q_digs : Nat} {q_draft : Nat} {q_isKept : Nat} {s_trace : Int64} {s_typed : Int32} {s_earliest : Int32} {s_latest : Int32} {s_firstYear : Int32} {s_rings : Int32} {s_years : Nat → Int32} {s_months : Nat → Int32} {x1 : Int32} {x2 : Int32} {o_r : Int32} : ∀ (z0 : Int32) (z1 : Int32), f_X12_told_36 s_years s_months x1 x2 z0 z1 = some o_r → ∀ (H : Heap) (locs : List Loc), va_P D vwCl (w_X12_told a0 q_years q_months q_text q_depths q_tune q_far q_books q_told q_ring q_woods q_ends q_wood q_sheets q_marsh q_oldest q_youngest q_knowns q_known q_weight q_chance q_digs q_draft q_isKept cA s_trace s_typed s_earliest s_latest s_firstYear s_rings s_years s_months) H → va_D A (w_X12_told a0 q_years q_months q_text q_depths q_tune q_far q_books q_told q_ring q_woods q_ends q_wood q_sheets q_marsh q_oldest q_youngest q_knowns q_known q_weight q_chance q_digs q_draft q_isKept cA s_trace s_typed s_earliest s_latest s_firstYear s_rings s_years s_months) → va_S A s.heap H locs → ∀ ls : Array Slot, lv_has ls 8 [(0, .ref a0), (2, .int x2)] → W p l e rm_X12_told s m args below meth c H locs 0 0 (MQ below (CQ D (some (.int o_r)) (w_X12_told a0 q_years q_months q_text q_depths q_tune q_far q_books q_told q_ring q_woods q_ends q_wood q_sheets q_marsh q_oldest q_youngest q_knowns q_known q_weight q_chance q_digs q_draft q_isKept cA s_trace s_typed s_earliest s_latest s_firstYear s_rings s_years s_months) A) args s 0 0 A) (F0 m 36 ls [.int z1, .int z0]) := by
  obtain ⟨hx, hb, hml, hown, hts, hr, hlocks, hX⟩ := C0
  have hK := hX.1
  have hN := hX.2
  intro z0 z1 hf H locs hP hD hS ls hl
  unfold f_X12_told_36 at hf
  refine lv_iadd hx hb dX12_told_36 ?_
  refine lv_topi (fun x3_1 ex3_1 => ?_)
  have hf := plt_e ex3_1 hf
  refine lv_istore_n (lv' := [(3, .int x3_1), (0, .ref a0), (2, .int x2)]) hx hb dX12_told_37 rfl hl (by decide) rfl (fun ls hl => ?_)
  refine lv_iload_n hx hb dX12_told_38 rfl (lv_at hl 0 rfl) ?_
  refine lv_bipush (v := (12 : Int32)) hx hb dX12_told_39 (by decide) ?_
  refine lv_idiv hx hb dX12_told_41 (by decide) ?_
  refine lv_topi (fun x4_2 ex4_2 => ?_)
  have hf := plt_e ex4_2 hf
  refine lv_istore (lv' := [(4, .int x4_2), (3, .int x3_1), (0, .ref a0), (2, .int x2)]) hx hb dX12_told_42 hl (by decide) rfl (fun ls hl => ?_)
  refine lv_iconst (v := (0 : Int32)) hx hb dX12_told_44 (by decide) ?_
  refine lv_istore (lv' := [(5, .int (0 : Int32)), (4, .int x4_2), (3, .int x3_1), (0, .ref a0), (2, .int x2)]) hx hb dX12_told_45 hl (by decide) rfl (fun ls hl => ?_)
  exact k_X12_told_47 ⟨hx, hb, hml, hown, hts, hr, hlocks, hX⟩ hA FU x3_1 x4_2 (0 : Int32) hf _ _ hP hD hS ls (lv_sub hl [3, 4, 2, 1, 0] rfl)

def f_X12_told (x1 : Int32) (x2 : Int32) (s_years : Nat → Int32) (s_months : Nat → Int32) : Option ((Int32)) :=
  pbr (x1 < (-60 : Int32))
    (some ((-1000000 : Int32)))
    (pcl (f_X12_in x2 (0 : Int32) (3 : Int32)) (fun r_2 => (
    pbr (r_2 = 0)
      (some ((-1000000 : Int32)))
      (pbr ((x1 - x1 / (120 : Int32) * (120 : Int32)) < (60 : Int32))
        (f_X12_told_36 s_years s_months x1 x2 (x1 / (120 : Int32)) (0 : Int32))
        (f_X12_told_36 s_years s_months x1 x2 (x1 / (120 : Int32)) (1 : Int32))))))

set_option maxRecDepth 100000 in
set_option maxHeartbeats 4000000 in
theorem ct_X12_told (l : Launch) (D : va_G) (cA : Nat → ClassId) (x1 : Int32) (x2 : Int32) (a0 : Nat) (q_years : Nat) (q_months : Nat) (q_text : Nat) (q_depths : Nat) (q_tune : Nat) (q_far : Nat) (q_books : Nat) (q_told : Nat) (q_ring : Nat) (q_woods : Nat) (q_ends : Nat) (q_wood : Nat) (q_sheets : Nat) (q_marsh : Nat) (q_oldest : Nat) (q_youngest : Nat) (q_knowns : Nat) (q_known : Nat) (q_weight : Nat) (q_chance : Nat) (q_digs : Nat) (q_draft : Nat) (q_isKept : Nat) (s_trace : Int64) (s_typed : Int32) (s_earliest : Int32) (s_latest : Int32) (s_firstYear : Int32) (s_rings : Int32) (s_years : Nat → Int32) (s_months : Nat → Int32) (o_r : Int32) (hf : f_X12_told x1 x2 s_years s_months = some o_r) : CT l yX12_told wsX12_told rm_X12_told D cA [.ref a0, .int x1, .int x2] (w_X12_told a0 q_years q_months q_text q_depths q_tune q_far q_books q_told q_ring q_woods q_ends q_wood q_sheets q_marsh q_oldest q_youngest q_knowns q_known q_weight q_chance q_digs q_draft q_isKept cA s_trace s_typed s_earliest s_latest s_firstYear s_rings s_years s_months) (w_X12_told a0 q_years q_months q_text q_depths q_tune q_far q_books q_told q_ring q_woods q_ends q_wood q_sheets q_marsh q_oldest q_youngest q_knowns q_known q_weight q_chance q_digs q_draft q_isKept cA s_trace s_typed s_earliest s_latest s_firstYear s_rings s_years s_months) (some (.int o_r)) := by
  refine CT.ofW (cc := cX12_told) (maxL := 8) (ret := (some .int)) (by decide +kernel) rfl (Nat.le_of_ble_eq_true rfl) ?_
  intro p e s m below meth c A C0 hA hP hD ls hl
  have C0 : MX p s m [.ref a0, .int x1, .int x2].toArray meth c cX12_told 8 wsX12_told RX12 (some .int) D cA := C0
  have hl : lv_has ls 8 [(0, .ref a0), (1, .int x1), (2, .int x2)] := hl
  obtain ⟨hx, hb, hml, hown, hts, hr, hlocks, hX⟩ := id C0
  have hK := hX.1
  have hN := hX.2
  have hS : va_S A s.heap s.heap [] := va_S.rf
  unfold f_X12_told at hf
  refine lv_iload_n hx hb dX12_told_0 rfl (lv_at hl 1 rfl) ?_
  refine lv_bipush (v := (-60 : Int32)) hx hb dX12_told_1 (by decide) ?_
  refine lv_icmp_lt (tgt := 15) hx hb dX12_told_3 (by decide) (fun c_1 => ?_) (fun c_1 => ?_)
  · have hf := pbr_t c_1 hf
    refine lv_ldc (v := (-1000000 : Int32)) hx hb hown (hts _ hw_X12_told_c122) dX12_told_15 ?_
    obtain rfl := pe1 hf
    exact m_iret hx hb hr hlocks hP hS dX12_told_17
  have hf := pbr_f c_1 hf
  refine lv_iload_n hx hb dX12_told_6 rfl (lv_at hl 2 rfl) ?_
  refine lv_iconst (v := (0 : Int32)) hx hb dX12_told_7 (by decide) ?_
  refine lv_iconst (v := (3 : Int32)) hx hb dX12_told_8 (by decide) ?_
  obtain ⟨r_2, hc_3, hf⟩ := pcl_e hf
  refine m_callS2 (As := [.int x2, .int (0 : Int32), .int (3 : Int32)]) (rest := []) ⟨hx, hb, hml, hown, hts⟩ hX (ct_X12_in l D cA x2 (0 : Int32) (3 : Int32) r_2 hc_3) (va_cwS 3 hts gX12_told_X12_in rfl rfl rfl (by decide +kernel) ⟨Nat.le_of_ble_eq_true rfl, Nat.le_of_ble_eq_true rfl⟩) hP hD hS hA [] [0, 1, 2] 3 (by decide) rfl rfl (WS' := (w_X12_told a0 q_years q_months q_text q_depths q_tune q_far q_books q_told q_ring q_woods q_ends q_wood q_sheets q_marsh q_oldest q_youngest q_knowns q_known q_weight q_chance q_digs q_draft q_isKept cA s_trace s_typed s_earliest s_latest s_firstYear s_rings s_years s_months)) (WR := [(a0, .inr (12, [.long s_trace, .ref q_text, .int s_typed, .ref q_depths, .ref q_tune, .ref q_far, .ref q_books, .ref q_told, .int s_earliest, .int s_latest, .ref q_years, .ref q_months, .int s_firstYear, .int s_rings, .ref q_ring, .ref q_woods, .ref q_ends, .ref q_wood, .ref q_sheets, .ref q_marsh, .ref q_oldest, .ref q_youngest, .ref q_knowns, .ref q_known, .ref q_weight, .ref q_chance, .ref q_digs, .ref q_draft, .ref q_isKept])), (q_years, .inl (cA 1, 2, .inl s_years)), (q_months, .inl (cA 1, 224, .inl s_months))]) rfl rfl rfl rfl (by decide) (by decide) rfl hl.1 rfl (st' := [.int r_2]) rfl (Nat.le_of_ble_eq_true rfl) ⟨Nat.zero_le _, Nat.zero_le _⟩ dX12_told_9 (fun H locs hP hD hS => ?_)
  refine lv_if_ne (tgt := 18) hx hb dX12_told_12 (by decide) (fun c_4 => ?_) (fun c_4 => ?_)
  · have hf := pbr_f c_4 hf
    refine lv_iload_n hx hb dX12_told_18 rfl (lv_at hl 1 rfl) ?_
    refine lv_bipush (v := (120 : Int32)) hx hb dX12_told_19 (by decide) ?_
    refine lv_idiv hx hb dX12_told_21 (by decide) ?_
    refine lv_iload_n hx hb dX12_told_22 rfl (lv_at hl 1 rfl) ?_
    refine lv_bipush (v := (120 : Int32)) hx hb dX12_told_23 (by decide) ?_
    refine lv_irem hx hb dX12_told_25 (by decide) ?_
    refine lv_bipush (v := (60 : Int32)) hx hb dX12_told_26 (by decide) ?_
    refine lv_icmp_lt (tgt := 35) hx hb dX12_told_28 (by decide) (fun c_5 => ?_) (fun c_5 => ?_)
    · have hf := pbr_t c_5 hf
      refine lv_iconst (v := (0 : Int32)) hx hb dX12_told_35 (by decide) ?_
      exact k_X12_told_36 C0 hA (x1 / (120 : Int32)) (0 : Int32) hf _ _ hP hD hS ls (lv_sub hl [0, 2] rfl)
    have hf := pbr_f c_5 hf
    refine lv_iconst (v := (1 : Int32)) hx hb dX12_told_31 (by decide) ?_
    refine lv_goto (tgt := 36) hx hb dX12_told_32 (by decide) ?_
    exact k_X12_told_36 C0 hA (x1 / (120 : Int32)) (1 : Int32) hf _ _ hP hD hS ls (lv_sub hl [0, 2] rfl)
  have hf := pbr_t c_4 hf
  refine lv_ldc (v := (-1000000 : Int32)) hx hb hown (hts _ hw_X12_told_c122) dX12_told_15 ?_
  obtain rfl := pe1 hf
  exact m_iret hx hb hr hlocks hP hS dX12_told_17
