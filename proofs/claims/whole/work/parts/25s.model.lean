/-! ===== OrphanWaveModel.copy(II)V ===== -/
abbrev rm_X12_copy : Room := { frames := 0, cells := 0, slots := 0, locals := 0 }
abbrev w_X12_copy (a0 : Nat) (q_books : Nat) (q_sheets : Nat) (q_knowns : Nat) (q_digs : Nat) (q_told : Nat) (q_marsh : Nat) (q_oldest : Nat) (q_youngest : Nat) (q_known : Nat) (q_weight : Nat) (q_text : Nat) (q_depths : Nat) (q_tune : Nat) (q_far : Nat) (q_years : Nat) (q_months : Nat) (q_ring : Nat) (q_woods : Nat) (q_ends : Nat) (q_wood : Nat) (q_chance : Nat) (q_draft : Nat) (q_isKept : Nat) (cA : Nat → ClassId) (s_trace : Int64) (s_typed : Int32) (s_earliest : Int32) (s_latest : Int32) (s_firstYear : Int32) (s_rings : Int32) (s_books : Nat → Int32) (s_sheets : Nat → Int32) (s_knowns : Nat → Int32) (s_digs : Nat → Int32) (s_told : Nat → Int32) (s_marsh : Nat → Int32) (s_oldest : Nat → Int32) (s_youngest : Nat → Int32) (s_known : Nat → Int32) (s_weight : Nat → Int64) : va_W := [(a0, .inr (12, [.long s_trace, .ref q_text, .int s_typed, .ref q_depths, .ref q_tune, .ref q_far, .ref q_books, .ref q_told, .int s_earliest, .int s_latest, .ref q_years, .ref q_months, .int s_firstYear, .int s_rings, .ref q_ring, .ref q_woods, .ref q_ends, .ref q_wood, .ref q_sheets, .ref q_marsh, .ref q_oldest, .ref q_youngest, .ref q_knowns, .ref q_known, .ref q_weight, .ref q_chance, .ref q_digs, .ref q_draft, .ref q_isKept])), (q_books, .inl (cA 1, 3, .inl s_books)), (q_sheets, .inl (cA 1, 3, .inl s_sheets)), (q_knowns, .inl (cA 1, 3, .inl s_knowns)), (q_digs, .inl (cA 1, 3, .inl s_digs)), (q_told, .inl (cA 1, 90, .inl s_told)), (q_marsh, .inl (cA 1, 36, .inl s_marsh)), (q_oldest, .inl (cA 1, 36, .inl s_oldest)), (q_youngest, .inl (cA 1, 36, .inl s_youngest)), (q_known, .inl (cA 1, 48, .inl s_known)), (q_weight, .inl (cA 2, 15, .inr (.inl s_weight)))]
theorem hn_X12_copy_X12 : ∀ w ∈ u_ws RX12 TX12 29, w ∈ wsX12_copy := by decide +kernel
theorem hw_X12_copy_f23 : Cond.fieldLink RX12 23 "OrphanWaveModel" "books" "[I" ∈ wsX12_copy := by decide +kernel
theorem hw_X12_copy_f47 : Cond.fieldLink RX12 47 "OrphanWaveModel" "sheets" "[I" ∈ wsX12_copy := by decide +kernel
theorem hw_X12_copy_f59 : Cond.fieldLink RX12 59 "OrphanWaveModel" "knowns" "[I" ∈ wsX12_copy := by decide +kernel
theorem hw_X12_copy_f72 : Cond.fieldLink RX12 72 "OrphanWaveModel" "digs" "[I" ∈ wsX12_copy := by decide +kernel
theorem hw_X12_copy_f26 : Cond.fieldLink RX12 26 "OrphanWaveModel" "told" "[I" ∈ wsX12_copy := by decide +kernel
theorem hw_X12_copy_f50 : Cond.fieldLink RX12 50 "OrphanWaveModel" "marsh" "[I" ∈ wsX12_copy := by decide +kernel
theorem hw_X12_copy_f53 : Cond.fieldLink RX12 53 "OrphanWaveModel" "oldest" "[I" ∈ wsX12_copy := by decide +kernel
theorem hw_X12_copy_f56 : Cond.fieldLink RX12 56 "OrphanWaveModel" "youngest" "[I" ∈ wsX12_copy := by decide +kernel
theorem hw_X12_copy_f62 : Cond.fieldLink RX12 62 "OrphanWaveModel" "known" "[I" ∈ wsX12_copy := by decide +kernel
theorem hw_X12_copy_f65 : Cond.fieldLink RX12 65 "OrphanWaveModel" "weight" "[J" ∈ wsX12_copy := by decide +kernel

def f_X12_copy_202 (x1 : Int32) (x2 : Int32) : Nat → (Int32) → (Nat → Int32) → (Nat → Int32) → (Nat → Int32) → (Nat → Int32) → (Nat → Int32) → (Nat → Int32) → (Nat → Int32) → (Nat → Int32) → (Nat → Int32) → (Nat → Int64) → Option ((Nat → Int32) × (Nat → Int32) × (Nat → Int32) × (Nat → Int32) × (Nat → Int32) × (Nat → Int32) × (Nat → Int32) × (Nat → Int32) × (Nat → Int32) × (Nat → Int64))
  | 0, _, _, _, _, _, _, _, _, _, _, _ => none
  | k + 1, x3, s_books, s_sheets, s_knowns, s_digs, s_told, s_marsh, s_oldest, s_youngest, s_known, s_weight =>
    pbr ((5 : Int32) ≤ x3)
      (some (s_books, s_sheets, s_knowns, s_digs, s_told, s_marsh, s_oldest, s_youngest, s_known, s_weight))
      (pgd (pin (((5 : Int32) * x1) + x3) 15) (
      pgd (pin (((5 : Int32) * x2) + x3) 15) (
      plt (vp_updL s_weight (((5 : Int32) * x2) + x3).toNatClampNeg (s_weight (((5 : Int32) * x1) + x3).toNatClampNeg) : Nat → Int64) (fun f_4 => (
      plt (x3 + (1 : Int32) : Int32) (fun x3_5 => (
      (f_X12_copy_202 x1 x2 k) x3_5 s_books s_sheets s_knowns s_digs s_told s_marsh s_oldest s_youngest s_known f_4)))))))

set_option maxRecDepth 100000 in
set_option maxHeartbeats 4000000 in
theorem k_X12_copy_202 {p : Program} {l : Launch} {e : Env} {s : State} {m : MethodId} {args : Array Value} {below : List Frame} {meth : Method} {c : Code} {A : Nat → Prop} {D : va_G} {cA : Nat → ClassId} (C0 : MX p s m args meth c cX12_copy 4 wsX12_copy RX12 none D cA) (hA : ∀ q, s.heap.size ≤ q → A q) {a0 : Nat} {q_books : Nat} {q_sheets : Nat} {q_knowns : Nat} {q_digs : Nat} {q_told : Nat} {q_marsh : Nat} {q_oldest : Nat} {q_youngest : Nat} {q_known : Nat} {q_weight : Nat} {q_text : Nat} {q_depths : Nat} {q_tune : Nat} {q_far : Nat} {q_years : Nat} {q_months : Nat} {q_ring : Nat} {q_woods : Nat} {q_ends : Nat} {q_wood : Nat} {q_chance : Nat} {q_draft : Nat} {q_isKept : Nat} {s_trace : Int64} {s_typed : Int32} {s_earliest : Int32} {s_latest : Int32} {s_firstYear : Int32} {s_rings : Int32} {x1 : Int32} {x2 : Int32} {o_books : Nat → Int32} {o_sheets : Nat → Int32} {o_knowns : Nat → Int32} {o_digs : Nat → Int32} {o_told : Nat → Int32} {o_marsh : Nat → Int32} {o_oldest : Nat → Int32} {o_youngest : Nat → Int32} {o_known : Nat → Int32} {o_weight : Nat → Int64} : ∀ (k : Nat) (x3 : Int32) (s_books : Nat → Int32) (s_sheets : Nat → Int32) (s_knowns : Nat → Int32) (s_digs : Nat → Int32) (s_told : Nat → Int32) (s_marsh : Nat → Int32) (s_oldest : Nat → Int32) (s_youngest : Nat → Int32) (s_known : Nat → Int32) (s_weight : Nat → Int64), f_X12_copy_202 x1 x2 k x3 s_books s_sheets s_knowns s_digs s_told s_marsh s_oldest s_youngest s_known s_weight = some (o_books, o_sheets, o_knowns, o_digs, o_told, o_marsh, o_oldest, o_youngest, o_known, o_weight) → ∀ (H : Heap) (locs : List Loc), va_P D vwCl (w_X12_copy a0 q_books q_sheets q_knowns q_digs q_told q_marsh q_oldest q_youngest q_known q_weight q_text q_depths q_tune q_far q_years q_months q_ring q_woods q_ends q_wood q_chance q_draft q_isKept cA s_trace s_typed s_earliest s_latest s_firstYear s_rings s_books s_sheets s_knowns s_digs s_told s_marsh s_oldest s_youngest s_known s_weight) H → va_D A (w_X12_copy a0 q_books q_sheets q_knowns q_digs q_told q_marsh q_oldest q_youngest q_known q_weight q_text q_depths q_tune q_far q_years q_months q_ring q_woods q_ends q_wood q_chance q_draft q_isKept cA s_trace s_typed s_earliest s_latest s_firstYear s_rings s_books s_sheets s_knowns s_digs s_told s_marsh s_oldest s_youngest s_known s_weight) → va_S A s.heap H locs → ∀ ls : Array Slot, lv_has ls 4 [(0, .ref a0), (1, .int x1), (2, .int x2), (3, .int x3)] → W p l e rm_X12_copy s m args below meth c H locs 0 0 (MQ below (CQ D none (w_X12_copy a0 q_books q_sheets q_knowns q_digs q_told q_marsh q_oldest q_youngest q_known q_weight q_text q_depths q_tune q_far q_years q_months q_ring q_woods q_ends q_wood q_chance q_draft q_isKept cA s_trace s_typed s_earliest s_latest s_firstYear s_rings o_books o_sheets o_knowns o_digs o_told o_marsh o_oldest o_youngest o_known o_weight) A) args s 0 0 A) (F0 m 202 ls []) := by
  obtain ⟨hx, hb, hml, hown, hts, hr, hlocks, hX⟩ := C0
  have hK := hX.1
  have hN := hX.2
  intro k
  induction k with
  | zero =>
    intro x3 s_books s_sheets s_knowns s_digs s_told s_marsh s_oldest s_youngest s_known s_weight hf
    cases hf
  | succ k ih =>
    intro x3 s_books s_sheets s_knowns s_digs s_told s_marsh s_oldest s_youngest s_known s_weight hf H locs hP hD hS ls hl
    rw [f_X12_copy_202] at hf
    refine lv_iload_n hx hb dX12_copy_202 rfl (lv_at hl 3 rfl) ?_
    refine lv_iconst (v := (5 : Int32)) hx hb dX12_copy_203 (by decide) ?_
    refine lv_icmp_ge (tgt := 233) hx hb dX12_copy_204 (by decide) (fun c_1 => ?_) (fun c_1 => ?_)
    · have hf := pbr_t c_1 hf
      obtain ⟨rfl, rfl, rfl, rfl, rfl, rfl, rfl, rfl, rfl, rfl⟩ := pe10 hf
      exact m_vret hx hb hr hlocks hP hS dX12_copy_233
    have hf := pbr_f c_1 hf
    refine lv_aload_n hx hb dX12_copy_207 rfl (lv_at hl 0 rfl) ?_
    refine va_get (D := D) (ci := 12) (v := .ref q_weight) (C := RX12) (T := TX12) (N := 29) hx hb hts hn_X12_copy_X12 hown hK hP 0 rfl rfl 24 (by decide) (hts _ hw_X12_copy_f65) (fun _ h9 => h9) rfl dX12_copy_208 ?_
    refine lv_iconst (v := (5 : Int32)) hx hb dX12_copy_211 (by decide) ?_
    refine lv_iload_n hx hb dX12_copy_212 rfl (lv_at hl 2 rfl) ?_
    refine lv_imul hx hb dX12_copy_213 ?_
    refine lv_iload_n hx hb dX12_copy_214 rfl (lv_at hl 3 rfl) ?_
    refine lv_iadd hx hb dX12_copy_215 ?_
    refine lv_aload_n hx hb dX12_copy_216 rfl (lv_at hl 0 rfl) ?_
    refine va_get (D := D) (ci := 12) (v := .ref q_weight) (C := RX12) (T := TX12) (N := 29) hx hb hts hn_X12_copy_X12 hown hK hP 0 rfl rfl 24 (by decide) (hts _ hw_X12_copy_f65) (fun _ h9 => h9) rfl dX12_copy_217 ?_
    refine lv_iconst (v := (5 : Int32)) hx hb dX12_copy_220 (by decide) ?_
    refine lv_iload_n hx hb dX12_copy_221 rfl (lv_at hl 1 rfl) ?_
    refine lv_imul hx hb dX12_copy_222 ?_
    refine lv_iload_n hx hb dX12_copy_223 rfl (lv_at hl 3 rfl) ?_
    refine lv_iadd hx hb dX12_copy_224 ?_
    obtain ⟨g_2, hf⟩ := pgd_e hf
    refine va_lald hx hb hK hP 10 2 rfl rfl g_2 dX12_copy_225 ?_
    obtain ⟨g_3, hf⟩ := pgd_e hf
    refine va_last hx hb hK hP hD hS 10 2 rfl rfl g_3 dX12_copy_226 (fun H locs hP hD hS => ?_)
    obtain ⟨f_4, ef_4⟩ : ∃ z : Nat → Int64, z = vp_updL s_weight (((5 : Int32) * x2) + x3).toNatClampNeg (s_weight (((5 : Int32) * x1) + x3).toNatClampNeg) := ⟨_, rfl⟩
    have hf := plt_e ef_4 hf
    have hP : va_P D vwCl (w_X12_copy a0 q_books q_sheets q_knowns q_digs q_told q_marsh q_oldest q_youngest q_known q_weight q_text q_depths q_tune q_far q_years q_months q_ring q_woods q_ends q_wood q_chance q_draft q_isKept cA s_trace s_typed s_earliest s_latest s_firstYear s_rings s_books s_sheets s_knowns s_digs s_told s_marsh s_oldest s_youngest s_known f_4) H := by rw [ef_4]; exact hP
    have hD : va_D A (w_X12_copy a0 q_books q_sheets q_knowns q_digs q_told q_marsh q_oldest q_youngest q_known q_weight q_text q_depths q_tune q_far q_years q_months q_ring q_woods q_ends q_wood q_chance q_draft q_isKept cA s_trace s_typed s_earliest s_latest s_firstYear s_rings s_books s_sheets s_knowns s_digs s_told s_marsh s_oldest s_youngest s_known f_4) := by rw [ef_4]; exact hD
    obtain ⟨x3_5, ex3_5⟩ : ∃ z : Int32, z = x3 + (1 : Int32) := ⟨_, rfl⟩
    have hf := plt_e ex3_5 hf
    refine lv_iinc (v := x3_5) (lv' := [(3, .int x3_5), (0, .ref a0), (1, .int x1), (2, .int x2)]) hx hb dX12_copy_227 hl (k := 3) rfl (by rw [ex3_5]; rfl) (by decide) rfl (fun ls hl => ?_)
    refine lv_goto (tgt := 202) hx hb dX12_copy_230 (by decide) ?_
    exact ih x3_5 s_books s_sheets s_knowns s_digs s_told s_marsh s_oldest s_youngest s_known f_4 hf _ _ hP hD hS ls (lv_sub hl [1, 2, 3, 0] rfl)

def f_X12_copy_166 (x1 : Int32) (x2 : Int32) : Nat → (Int32) → (Nat → Int32) → (Nat → Int32) → (Nat → Int32) → (Nat → Int32) → (Nat → Int32) → (Nat → Int32) → (Nat → Int32) → (Nat → Int32) → (Nat → Int32) → (Nat → Int64) → Option ((Nat → Int32) × (Nat → Int32) × (Nat → Int32) × (Nat → Int32) × (Nat → Int32) × (Nat → Int32) × (Nat → Int32) × (Nat → Int32) × (Nat → Int32) × (Nat → Int64))
  | 0, _, _, _, _, _, _, _, _, _, _, _ => none
  | k + 1, x3, s_books, s_sheets, s_knowns, s_digs, s_told, s_marsh, s_oldest, s_youngest, s_known, s_weight =>
    pbr ((16 : Int32) ≤ x3)
      (f_X12_copy_202 x1 x2 FU (0 : Int32) s_books s_sheets s_knowns s_digs s_told s_marsh s_oldest s_youngest s_known s_weight)
      (pgd (pin (((16 : Int32) * x1) + x3) 48) (
      pgd (pin (((16 : Int32) * x2) + x3) 48) (
      plt (upd s_known (((16 : Int32) * x2) + x3).toNatClampNeg (s_known (((16 : Int32) * x1) + x3).toNatClampNeg) : Nat → Int32) (fun f_4 => (
      plt (x3 + (1 : Int32) : Int32) (fun x3_5 => (
      (f_X12_copy_166 x1 x2 k) x3_5 s_books s_sheets s_knowns s_digs s_told s_marsh s_oldest s_youngest f_4 s_weight)))))))

set_option maxRecDepth 100000 in
set_option maxHeartbeats 4000000 in
theorem k_X12_copy_166 {p : Program} {l : Launch} {e : Env} {s : State} {m : MethodId} {args : Array Value} {below : List Frame} {meth : Method} {c : Code} {A : Nat → Prop} {D : va_G} {cA : Nat → ClassId} (C0 : MX p s m args meth c cX12_copy 4 wsX12_copy RX12 none D cA) (hA : ∀ q, s.heap.size ≤ q → A q) {a0 : Nat} {q_books : Nat} {q_sheets : Nat} {q_knowns : Nat} {q_digs : Nat} {q_told : Nat} {q_marsh : Nat} {q_oldest : Nat} {q_youngest : Nat} {q_known : Nat} {q_weight : Nat} {q_text : Nat} {q_depths : Nat} {q_tune : Nat} {q_far : Nat} {q_years : Nat} {q_months : Nat} {q_ring : Nat} {q_woods : Nat} {q_ends : Nat} {q_wood : Nat} {q_chance : Nat} {q_draft : Nat} {q_isKept : Nat} {s_trace : Int64} {s_typed : Int32} {s_earliest : Int32} {s_latest : Int32} {s_firstYear : Int32} {s_rings : Int32} {x1 : Int32} {x2 : Int32} {o_books : Nat → Int32} {o_sheets : Nat → Int32} {o_knowns : Nat → Int32} {o_digs : Nat → Int32} {o_told : Nat → Int32} {o_marsh : Nat → Int32} {o_oldest : Nat → Int32} {o_youngest : Nat → Int32} {o_known : Nat → Int32} {o_weight : Nat → Int64} : ∀ (k : Nat) (x3 : Int32) (s_books : Nat → Int32) (s_sheets : Nat → Int32) (s_knowns : Nat → Int32) (s_digs : Nat → Int32) (s_told : Nat → Int32) (s_marsh : Nat → Int32) (s_oldest : Nat → Int32) (s_youngest : Nat → Int32) (s_known : Nat → Int32) (s_weight : Nat → Int64), f_X12_copy_166 x1 x2 k x3 s_books s_sheets s_knowns s_digs s_told s_marsh s_oldest s_youngest s_known s_weight = some (o_books, o_sheets, o_knowns, o_digs, o_told, o_marsh, o_oldest, o_youngest, o_known, o_weight) → ∀ (H : Heap) (locs : List Loc), va_P D vwCl (w_X12_copy a0 q_books q_sheets q_knowns q_digs q_told q_marsh q_oldest q_youngest q_known q_weight q_text q_depths q_tune q_far q_years q_months q_ring q_woods q_ends q_wood q_chance q_draft q_isKept cA s_trace s_typed s_earliest s_latest s_firstYear s_rings s_books s_sheets s_knowns s_digs s_told s_marsh s_oldest s_youngest s_known s_weight) H → va_D A (w_X12_copy a0 q_books q_sheets q_knowns q_digs q_told q_marsh q_oldest q_youngest q_known q_weight q_text q_depths q_tune q_far q_years q_months q_ring q_woods q_ends q_wood q_chance q_draft q_isKept cA s_trace s_typed s_earliest s_latest s_firstYear s_rings s_books s_sheets s_knowns s_digs s_told s_marsh s_oldest s_youngest s_known s_weight) → va_S A s.heap H locs → ∀ ls : Array Slot, lv_has ls 4 [(0, .ref a0), (1, .int x1), (2, .int x2), (3, .int x3)] → W p l e rm_X12_copy s m args below meth c H locs 0 0 (MQ below (CQ D none (w_X12_copy a0 q_books q_sheets q_knowns q_digs q_told q_marsh q_oldest q_youngest q_known q_weight q_text q_depths q_tune q_far q_years q_months q_ring q_woods q_ends q_wood q_chance q_draft q_isKept cA s_trace s_typed s_earliest s_latest s_firstYear s_rings o_books o_sheets o_knowns o_digs o_told o_marsh o_oldest o_youngest o_known o_weight) A) args s 0 0 A) (F0 m 166 ls []) := by
  obtain ⟨hx, hb, hml, hown, hts, hr, hlocks, hX⟩ := C0
  have hK := hX.1
  have hN := hX.2
  intro k
  induction k with
  | zero =>
    intro x3 s_books s_sheets s_knowns s_digs s_told s_marsh s_oldest s_youngest s_known s_weight hf
    cases hf
  | succ k ih =>
    intro x3 s_books s_sheets s_knowns s_digs s_told s_marsh s_oldest s_youngest s_known s_weight hf H locs hP hD hS ls hl
    rw [f_X12_copy_166] at hf
    refine lv_iload_n hx hb dX12_copy_166 rfl (lv_at hl 3 rfl) ?_
    refine lv_bipush (v := (16 : Int32)) hx hb dX12_copy_167 (by decide) ?_
    refine lv_icmp_ge (tgt := 200) hx hb dX12_copy_169 (by decide) (fun c_1 => ?_) (fun c_1 => ?_)
    · have hf := pbr_t c_1 hf
      refine lv_iconst (v := (0 : Int32)) hx hb dX12_copy_200 (by decide) ?_
      refine lv_istore_n (lv' := [(3, .int (0 : Int32)), (0, .ref a0), (1, .int x1), (2, .int x2)]) hx hb dX12_copy_201 rfl hl (by decide) rfl (fun ls hl => ?_)
      exact k_X12_copy_202 ⟨hx, hb, hml, hown, hts, hr, hlocks, hX⟩ hA FU (0 : Int32) s_books s_sheets s_knowns s_digs s_told s_marsh s_oldest s_youngest s_known s_weight hf _ _ hP hD hS ls (lv_sub hl [1, 2, 3, 0] rfl)
    have hf := pbr_f c_1 hf
    refine lv_aload_n hx hb dX12_copy_172 rfl (lv_at hl 0 rfl) ?_
    refine va_get (D := D) (ci := 12) (v := .ref q_known) (C := RX12) (T := TX12) (N := 29) hx hb hts hn_X12_copy_X12 hown hK hP 0 rfl rfl 23 (by decide) (hts _ hw_X12_copy_f62) (fun _ h9 => h9) rfl dX12_copy_173 ?_
    refine lv_bipush (v := (16 : Int32)) hx hb dX12_copy_176 (by decide) ?_
    refine lv_iload_n hx hb dX12_copy_178 rfl (lv_at hl 2 rfl) ?_
    refine lv_imul hx hb dX12_copy_179 ?_
    refine lv_iload_n hx hb dX12_copy_180 rfl (lv_at hl 3 rfl) ?_
    refine lv_iadd hx hb dX12_copy_181 ?_
    refine lv_aload_n hx hb dX12_copy_182 rfl (lv_at hl 0 rfl) ?_
    refine va_get (D := D) (ci := 12) (v := .ref q_known) (C := RX12) (T := TX12) (N := 29) hx hb hts hn_X12_copy_X12 hown hK hP 0 rfl rfl 23 (by decide) (hts _ hw_X12_copy_f62) (fun _ h9 => h9) rfl dX12_copy_183 ?_
    refine lv_bipush (v := (16 : Int32)) hx hb dX12_copy_186 (by decide) ?_
    refine lv_iload_n hx hb dX12_copy_188 rfl (lv_at hl 1 rfl) ?_
    refine lv_imul hx hb dX12_copy_189 ?_
    refine lv_iload_n hx hb dX12_copy_190 rfl (lv_at hl 3 rfl) ?_
    refine lv_iadd hx hb dX12_copy_191 ?_
    obtain ⟨g_2, hf⟩ := pgd_e hf
    refine va_iald hx hb hK hP 9 1 rfl rfl g_2 dX12_copy_192 ?_
    obtain ⟨g_3, hf⟩ := pgd_e hf
    refine va_iast hx hb hK hP hD hS 9 1 rfl rfl g_3 dX12_copy_193 (fun H locs hP hD hS => ?_)
    obtain ⟨f_4, ef_4⟩ : ∃ z : Nat → Int32, z = upd s_known (((16 : Int32) * x2) + x3).toNatClampNeg (s_known (((16 : Int32) * x1) + x3).toNatClampNeg) := ⟨_, rfl⟩
    have hf := plt_e ef_4 hf
    have hP : va_P D vwCl (w_X12_copy a0 q_books q_sheets q_knowns q_digs q_told q_marsh q_oldest q_youngest q_known q_weight q_text q_depths q_tune q_far q_years q_months q_ring q_woods q_ends q_wood q_chance q_draft q_isKept cA s_trace s_typed s_earliest s_latest s_firstYear s_rings s_books s_sheets s_knowns s_digs s_told s_marsh s_oldest s_youngest f_4 s_weight) H := by rw [ef_4]; exact hP
    have hD : va_D A (w_X12_copy a0 q_books q_sheets q_knowns q_digs q_told q_marsh q_oldest q_youngest q_known q_weight q_text q_depths q_tune q_far q_years q_months q_ring q_woods q_ends q_wood q_chance q_draft q_isKept cA s_trace s_typed s_earliest s_latest s_firstYear s_rings s_books s_sheets s_knowns s_digs s_told s_marsh s_oldest s_youngest f_4 s_weight) := by rw [ef_4]; exact hD
    obtain ⟨x3_5, ex3_5⟩ : ∃ z : Int32, z = x3 + (1 : Int32) := ⟨_, rfl⟩
    have hf := plt_e ex3_5 hf
    refine lv_iinc (v := x3_5) (lv' := [(3, .int x3_5), (0, .ref a0), (1, .int x1), (2, .int x2)]) hx hb dX12_copy_194 hl (k := 3) rfl (by rw [ex3_5]; rfl) (by decide) rfl (fun ls hl => ?_)
    refine lv_goto (tgt := 166) hx hb dX12_copy_197 (by decide) ?_
    exact ih x3_5 s_books s_sheets s_knowns s_digs s_told s_marsh s_oldest s_youngest f_4 s_weight hf _ _ hP hD hS ls (lv_sub hl [1, 2, 3, 0] rfl)

def f_X12_copy_86 (x1 : Int32) (x2 : Int32) : Nat → (Int32) → (Nat → Int32) → (Nat → Int32) → (Nat → Int32) → (Nat → Int32) → (Nat → Int32) → (Nat → Int32) → (Nat → Int32) → (Nat → Int32) → (Nat → Int32) → (Nat → Int64) → Option ((Nat → Int32) × (Nat → Int32) × (Nat → Int32) × (Nat → Int32) × (Nat → Int32) × (Nat → Int32) × (Nat → Int32) × (Nat → Int32) × (Nat → Int32) × (Nat → Int64))
  | 0, _, _, _, _, _, _, _, _, _, _, _ => none
  | k + 1, x3, s_books, s_sheets, s_knowns, s_digs, s_told, s_marsh, s_oldest, s_youngest, s_known, s_weight =>
    pbr ((12 : Int32) ≤ x3)
      (f_X12_copy_166 x1 x2 FU (0 : Int32) s_books s_sheets s_knowns s_digs s_told s_marsh s_oldest s_youngest s_known s_weight)
      (pgd (pin (((12 : Int32) * x1) + x3) 36) (
      pgd (pin (((12 : Int32) * x2) + x3) 36) (
      plt (upd s_marsh (((12 : Int32) * x2) + x3).toNatClampNeg (s_marsh (((12 : Int32) * x1) + x3).toNatClampNeg) : Nat → Int32) (fun f_4 => (
      plt (upd s_oldest (((12 : Int32) * x2) + x3).toNatClampNeg (s_oldest (((12 : Int32) * x1) + x3).toNatClampNeg) : Nat → Int32) (fun f_5 => (
      plt (upd s_youngest (((12 : Int32) * x2) + x3).toNatClampNeg (s_youngest (((12 : Int32) * x1) + x3).toNatClampNeg) : Nat → Int32) (fun f_6 => (
      plt (x3 + (1 : Int32) : Int32) (fun x3_7 => (
      (f_X12_copy_86 x1 x2 k) x3_7 s_books s_sheets s_knowns s_digs s_told f_4 f_5 f_6 s_known s_weight)))))))))))

set_option maxRecDepth 100000 in
set_option maxHeartbeats 4000000 in
theorem k_X12_copy_86 {p : Program} {l : Launch} {e : Env} {s : State} {m : MethodId} {args : Array Value} {below : List Frame} {meth : Method} {c : Code} {A : Nat → Prop} {D : va_G} {cA : Nat → ClassId} (C0 : MX p s m args meth c cX12_copy 4 wsX12_copy RX12 none D cA) (hA : ∀ q, s.heap.size ≤ q → A q) {a0 : Nat} {q_books : Nat} {q_sheets : Nat} {q_knowns : Nat} {q_digs : Nat} {q_told : Nat} {q_marsh : Nat} {q_oldest : Nat} {q_youngest : Nat} {q_known : Nat} {q_weight : Nat} {q_text : Nat} {q_depths : Nat} {q_tune : Nat} {q_far : Nat} {q_years : Nat} {q_months : Nat} {q_ring : Nat} {q_woods : Nat} {q_ends : Nat} {q_wood : Nat} {q_chance : Nat} {q_draft : Nat} {q_isKept : Nat} {s_trace : Int64} {s_typed : Int32} {s_earliest : Int32} {s_latest : Int32} {s_firstYear : Int32} {s_rings : Int32} {x1 : Int32} {x2 : Int32} {o_books : Nat → Int32} {o_sheets : Nat → Int32} {o_knowns : Nat → Int32} {o_digs : Nat → Int32} {o_told : Nat → Int32} {o_marsh : Nat → Int32} {o_oldest : Nat → Int32} {o_youngest : Nat → Int32} {o_known : Nat → Int32} {o_weight : Nat → Int64} : ∀ (k : Nat) (x3 : Int32) (s_books : Nat → Int32) (s_sheets : Nat → Int32) (s_knowns : Nat → Int32) (s_digs : Nat → Int32) (s_told : Nat → Int32) (s_marsh : Nat → Int32) (s_oldest : Nat → Int32) (s_youngest : Nat → Int32) (s_known : Nat → Int32) (s_weight : Nat → Int64), f_X12_copy_86 x1 x2 k x3 s_books s_sheets s_knowns s_digs s_told s_marsh s_oldest s_youngest s_known s_weight = some (o_books, o_sheets, o_knowns, o_digs, o_told, o_marsh, o_oldest, o_youngest, o_known, o_weight) → ∀ (H : Heap) (locs : List Loc), va_P D vwCl (w_X12_copy a0 q_books q_sheets q_knowns q_digs q_told q_marsh q_oldest q_youngest q_known q_weight q_text q_depths q_tune q_far q_years q_months q_ring q_woods q_ends q_wood q_chance q_draft q_isKept cA s_trace s_typed s_earliest s_latest s_firstYear s_rings s_books s_sheets s_knowns s_digs s_told s_marsh s_oldest s_youngest s_known s_weight) H → va_D A (w_X12_copy a0 q_books q_sheets q_knowns q_digs q_told q_marsh q_oldest q_youngest q_known q_weight q_text q_depths q_tune q_far q_years q_months q_ring q_woods q_ends q_wood q_chance q_draft q_isKept cA s_trace s_typed s_earliest s_latest s_firstYear s_rings s_books s_sheets s_knowns s_digs s_told s_marsh s_oldest s_youngest s_known s_weight) → va_S A s.heap H locs → ∀ ls : Array Slot, lv_has ls 4 [(0, .ref a0), (1, .int x1), (2, .int x2), (3, .int x3)] → W p l e rm_X12_copy s m args below meth c H locs 0 0 (MQ below (CQ D none (w_X12_copy a0 q_books q_sheets q_knowns q_digs q_told q_marsh q_oldest q_youngest q_known q_weight q_text q_depths q_tune q_far q_years q_months q_ring q_woods q_ends q_wood q_chance q_draft q_isKept cA s_trace s_typed s_earliest s_latest s_firstYear s_rings o_books o_sheets o_knowns o_digs o_told o_marsh o_oldest o_youngest o_known o_weight) A) args s 0 0 A) (F0 m 86 ls []) := by
  obtain ⟨hx, hb, hml, hown, hts, hr, hlocks, hX⟩ := C0
  have hK := hX.1
  have hN := hX.2
  intro k
  induction k with
  | zero =>
    intro x3 s_books s_sheets s_knowns s_digs s_told s_marsh s_oldest s_youngest s_known s_weight hf
    cases hf
  | succ k ih =>
    intro x3 s_books s_sheets s_knowns s_digs s_told s_marsh s_oldest s_youngest s_known s_weight hf H locs hP hD hS ls hl
    rw [f_X12_copy_86] at hf
    refine lv_iload_n hx hb dX12_copy_86 rfl (lv_at hl 3 rfl) ?_
    refine lv_bipush (v := (12 : Int32)) hx hb dX12_copy_87 (by decide) ?_
    refine lv_icmp_ge (tgt := 164) hx hb dX12_copy_89 (by decide) (fun c_1 => ?_) (fun c_1 => ?_)
    · have hf := pbr_t c_1 hf
      refine lv_iconst (v := (0 : Int32)) hx hb dX12_copy_164 (by decide) ?_
      refine lv_istore_n (lv' := [(3, .int (0 : Int32)), (0, .ref a0), (1, .int x1), (2, .int x2)]) hx hb dX12_copy_165 rfl hl (by decide) rfl (fun ls hl => ?_)
      exact k_X12_copy_166 ⟨hx, hb, hml, hown, hts, hr, hlocks, hX⟩ hA FU (0 : Int32) s_books s_sheets s_knowns s_digs s_told s_marsh s_oldest s_youngest s_known s_weight hf _ _ hP hD hS ls (lv_sub hl [1, 2, 3, 0] rfl)
    have hf := pbr_f c_1 hf
    refine lv_aload_n hx hb dX12_copy_92 rfl (lv_at hl 0 rfl) ?_
    refine va_get (D := D) (ci := 12) (v := .ref q_marsh) (C := RX12) (T := TX12) (N := 29) hx hb hts hn_X12_copy_X12 hown hK hP 0 rfl rfl 19 (by decide) (hts _ hw_X12_copy_f50) (fun _ h9 => h9) rfl dX12_copy_93 ?_
    refine lv_bipush (v := (12 : Int32)) hx hb dX12_copy_96 (by decide) ?_
    refine lv_iload_n hx hb dX12_copy_98 rfl (lv_at hl 2 rfl) ?_
    refine lv_imul hx hb dX12_copy_99 ?_
    refine lv_iload_n hx hb dX12_copy_100 rfl (lv_at hl 3 rfl) ?_
    refine lv_iadd hx hb dX12_copy_101 ?_
    refine lv_aload_n hx hb dX12_copy_102 rfl (lv_at hl 0 rfl) ?_
    refine va_get (D := D) (ci := 12) (v := .ref q_marsh) (C := RX12) (T := TX12) (N := 29) hx hb hts hn_X12_copy_X12 hown hK hP 0 rfl rfl 19 (by decide) (hts _ hw_X12_copy_f50) (fun _ h9 => h9) rfl dX12_copy_103 ?_
    refine lv_bipush (v := (12 : Int32)) hx hb dX12_copy_106 (by decide) ?_
    refine lv_iload_n hx hb dX12_copy_108 rfl (lv_at hl 1 rfl) ?_
    refine lv_imul hx hb dX12_copy_109 ?_
    refine lv_iload_n hx hb dX12_copy_110 rfl (lv_at hl 3 rfl) ?_
    refine lv_iadd hx hb dX12_copy_111 ?_
    obtain ⟨g_2, hf⟩ := pgd_e hf
    refine va_iald hx hb hK hP 6 1 rfl rfl g_2 dX12_copy_112 ?_
    obtain ⟨g_3, hf⟩ := pgd_e hf
    refine va_iast hx hb hK hP hD hS 6 1 rfl rfl g_3 dX12_copy_113 (fun H locs hP hD hS => ?_)
    obtain ⟨f_4, ef_4⟩ : ∃ z : Nat → Int32, z = upd s_marsh (((12 : Int32) * x2) + x3).toNatClampNeg (s_marsh (((12 : Int32) * x1) + x3).toNatClampNeg) := ⟨_, rfl⟩
    have hf := plt_e ef_4 hf
    have hP : va_P D vwCl (w_X12_copy a0 q_books q_sheets q_knowns q_digs q_told q_marsh q_oldest q_youngest q_known q_weight q_text q_depths q_tune q_far q_years q_months q_ring q_woods q_ends q_wood q_chance q_draft q_isKept cA s_trace s_typed s_earliest s_latest s_firstYear s_rings s_books s_sheets s_knowns s_digs s_told f_4 s_oldest s_youngest s_known s_weight) H := by rw [ef_4]; exact hP
    have hD : va_D A (w_X12_copy a0 q_books q_sheets q_knowns q_digs q_told q_marsh q_oldest q_youngest q_known q_weight q_text q_depths q_tune q_far q_years q_months q_ring q_woods q_ends q_wood q_chance q_draft q_isKept cA s_trace s_typed s_earliest s_latest s_firstYear s_rings s_books s_sheets s_knowns s_digs s_told f_4 s_oldest s_youngest s_known s_weight) := by rw [ef_4]; exact hD
    refine lv_aload_n hx hb dX12_copy_114 rfl (lv_at hl 0 rfl) ?_
    refine va_get (D := D) (ci := 12) (v := .ref q_oldest) (C := RX12) (T := TX12) (N := 29) hx hb hts hn_X12_copy_X12 hown hK hP 0 rfl rfl 20 (by decide) (hts _ hw_X12_copy_f53) (fun _ h9 => h9) rfl dX12_copy_115 ?_
    refine lv_bipush (v := (12 : Int32)) hx hb dX12_copy_118 (by decide) ?_
    refine lv_iload_n hx hb dX12_copy_120 rfl (lv_at hl 2 rfl) ?_
    refine lv_imul hx hb dX12_copy_121 ?_
    refine lv_iload_n hx hb dX12_copy_122 rfl (lv_at hl 3 rfl) ?_
    refine lv_iadd hx hb dX12_copy_123 ?_
    refine lv_aload_n hx hb dX12_copy_124 rfl (lv_at hl 0 rfl) ?_
    refine va_get (D := D) (ci := 12) (v := .ref q_oldest) (C := RX12) (T := TX12) (N := 29) hx hb hts hn_X12_copy_X12 hown hK hP 0 rfl rfl 20 (by decide) (hts _ hw_X12_copy_f53) (fun _ h9 => h9) rfl dX12_copy_125 ?_
    refine lv_bipush (v := (12 : Int32)) hx hb dX12_copy_128 (by decide) ?_
    refine lv_iload_n hx hb dX12_copy_130 rfl (lv_at hl 1 rfl) ?_
    refine lv_imul hx hb dX12_copy_131 ?_
    refine lv_iload_n hx hb dX12_copy_132 rfl (lv_at hl 3 rfl) ?_
    refine lv_iadd hx hb dX12_copy_133 ?_
    refine va_iald hx hb hK hP 7 1 rfl rfl g_2 dX12_copy_134 ?_
    refine va_iast hx hb hK hP hD hS 7 1 rfl rfl g_3 dX12_copy_135 (fun H locs hP hD hS => ?_)
    obtain ⟨f_5, ef_5⟩ : ∃ z : Nat → Int32, z = upd s_oldest (((12 : Int32) * x2) + x3).toNatClampNeg (s_oldest (((12 : Int32) * x1) + x3).toNatClampNeg) := ⟨_, rfl⟩
    have hf := plt_e ef_5 hf
    have hP : va_P D vwCl (w_X12_copy a0 q_books q_sheets q_knowns q_digs q_told q_marsh q_oldest q_youngest q_known q_weight q_text q_depths q_tune q_far q_years q_months q_ring q_woods q_ends q_wood q_chance q_draft q_isKept cA s_trace s_typed s_earliest s_latest s_firstYear s_rings s_books s_sheets s_knowns s_digs s_told f_4 f_5 s_youngest s_known s_weight) H := by rw [ef_5]; exact hP
    have hD : va_D A (w_X12_copy a0 q_books q_sheets q_knowns q_digs q_told q_marsh q_oldest q_youngest q_known q_weight q_text q_depths q_tune q_far q_years q_months q_ring q_woods q_ends q_wood q_chance q_draft q_isKept cA s_trace s_typed s_earliest s_latest s_firstYear s_rings s_books s_sheets s_knowns s_digs s_told f_4 f_5 s_youngest s_known s_weight) := by rw [ef_5]; exact hD
    refine lv_aload_n hx hb dX12_copy_136 rfl (lv_at hl 0 rfl) ?_
    refine va_get (D := D) (ci := 12) (v := .ref q_youngest) (C := RX12) (T := TX12) (N := 29) hx hb hts hn_X12_copy_X12 hown hK hP 0 rfl rfl 21 (by decide) (hts _ hw_X12_copy_f56) (fun _ h9 => h9) rfl dX12_copy_137 ?_
    refine lv_bipush (v := (12 : Int32)) hx hb dX12_copy_140 (by decide) ?_
    refine lv_iload_n hx hb dX12_copy_142 rfl (lv_at hl 2 rfl) ?_
    refine lv_imul hx hb dX12_copy_143 ?_
    refine lv_iload_n hx hb dX12_copy_144 rfl (lv_at hl 3 rfl) ?_
    refine lv_iadd hx hb dX12_copy_145 ?_
    refine lv_aload_n hx hb dX12_copy_146 rfl (lv_at hl 0 rfl) ?_
    refine va_get (D := D) (ci := 12) (v := .ref q_youngest) (C := RX12) (T := TX12) (N := 29) hx hb hts hn_X12_copy_X12 hown hK hP 0 rfl rfl 21 (by decide) (hts _ hw_X12_copy_f56) (fun _ h9 => h9) rfl dX12_copy_147 ?_
    refine lv_bipush (v := (12 : Int32)) hx hb dX12_copy_150 (by decide) ?_
    refine lv_iload_n hx hb dX12_copy_152 rfl (lv_at hl 1 rfl) ?_
    refine lv_imul hx hb dX12_copy_153 ?_
    refine lv_iload_n hx hb dX12_copy_154 rfl (lv_at hl 3 rfl) ?_
    refine lv_iadd hx hb dX12_copy_155 ?_
    refine va_iald hx hb hK hP 8 1 rfl rfl g_2 dX12_copy_156 ?_
    refine va_iast hx hb hK hP hD hS 8 1 rfl rfl g_3 dX12_copy_157 (fun H locs hP hD hS => ?_)
    obtain ⟨f_6, ef_6⟩ : ∃ z : Nat → Int32, z = upd s_youngest (((12 : Int32) * x2) + x3).toNatClampNeg (s_youngest (((12 : Int32) * x1) + x3).toNatClampNeg) := ⟨_, rfl⟩
    have hf := plt_e ef_6 hf
    have hP : va_P D vwCl (w_X12_copy a0 q_books q_sheets q_knowns q_digs q_told q_marsh q_oldest q_youngest q_known q_weight q_text q_depths q_tune q_far q_years q_months q_ring q_woods q_ends q_wood q_chance q_draft q_isKept cA s_trace s_typed s_earliest s_latest s_firstYear s_rings s_books s_sheets s_knowns s_digs s_told f_4 f_5 f_6 s_known s_weight) H := by rw [ef_6]; exact hP
    have hD : va_D A (w_X12_copy a0 q_books q_sheets q_knowns q_digs q_told q_marsh q_oldest q_youngest q_known q_weight q_text q_depths q_tune q_far q_years q_months q_ring q_woods q_ends q_wood q_chance q_draft q_isKept cA s_trace s_typed s_earliest s_latest s_firstYear s_rings s_books s_sheets s_knowns s_digs s_told f_4 f_5 f_6 s_known s_weight) := by rw [ef_6]; exact hD
    obtain ⟨x3_7, ex3_7⟩ : ∃ z : Int32, z = x3 + (1 : Int32) := ⟨_, rfl⟩
    have hf := plt_e ex3_7 hf
    refine lv_iinc (v := x3_7) (lv' := [(3, .int x3_7), (0, .ref a0), (1, .int x1), (2, .int x2)]) hx hb dX12_copy_158 hl (k := 3) rfl (by rw [ex3_7]; rfl) (by decide) rfl (fun ls hl => ?_)
    refine lv_goto (tgt := 86) hx hb dX12_copy_161 (by decide) ?_
    exact ih x3_7 s_books s_sheets s_knowns s_digs s_told f_4 f_5 f_6 s_known s_weight hf _ _ hP hD hS ls (lv_sub hl [1, 2, 3, 0] rfl)

def f_X12_copy_50 (x1 : Int32) (x2 : Int32) : Nat → (Int32) → (Nat → Int32) → (Nat → Int32) → (Nat → Int32) → (Nat → Int32) → (Nat → Int32) → (Nat → Int32) → (Nat → Int32) → (Nat → Int32) → (Nat → Int32) → (Nat → Int64) → Option ((Nat → Int32) × (Nat → Int32) × (Nat → Int32) × (Nat → Int32) × (Nat → Int32) × (Nat → Int32) × (Nat → Int32) × (Nat → Int32) × (Nat → Int32) × (Nat → Int64))
  | 0, _, _, _, _, _, _, _, _, _, _, _ => none
  | k + 1, x3, s_books, s_sheets, s_knowns, s_digs, s_told, s_marsh, s_oldest, s_youngest, s_known, s_weight =>
    pbr ((30 : Int32) ≤ x3)
      (f_X12_copy_86 x1 x2 FU (0 : Int32) s_books s_sheets s_knowns s_digs s_told s_marsh s_oldest s_youngest s_known s_weight)
      (pgd (pin (((30 : Int32) * x1) + x3) 90) (
      pgd (pin (((30 : Int32) * x2) + x3) 90) (
      plt (upd s_told (((30 : Int32) * x2) + x3).toNatClampNeg (s_told (((30 : Int32) * x1) + x3).toNatClampNeg) : Nat → Int32) (fun f_4 => (
      plt (x3 + (1 : Int32) : Int32) (fun x3_5 => (
      (f_X12_copy_50 x1 x2 k) x3_5 s_books s_sheets s_knowns s_digs f_4 s_marsh s_oldest s_youngest s_known s_weight)))))))

set_option maxRecDepth 100000 in
set_option maxHeartbeats 4000000 in
theorem k_X12_copy_50 {p : Program} {l : Launch} {e : Env} {s : State} {m : MethodId} {args : Array Value} {below : List Frame} {meth : Method} {c : Code} {A : Nat → Prop} {D : va_G} {cA : Nat → ClassId} (C0 : MX p s m args meth c cX12_copy 4 wsX12_copy RX12 none D cA) (hA : ∀ q, s.heap.size ≤ q → A q) {a0 : Nat} {q_books : Nat} {q_sheets : Nat} {q_knowns : Nat} {q_digs : Nat} {q_told : Nat} {q_marsh : Nat} {q_oldest : Nat} {q_youngest : Nat} {q_known : Nat} {q_weight : Nat} {q_text : Nat} {q_depths : Nat} {q_tune : Nat} {q_far : Nat} {q_years : Nat} {q_months : Nat} {q_ring : Nat} {q_woods : Nat} {q_ends : Nat} {q_wood : Nat} {q_chance : Nat} {q_draft : Nat} {q_isKept : Nat} {s_trace : Int64} {s_typed : Int32} {s_earliest : Int32} {s_latest : Int32} {s_firstYear : Int32} {s_rings : Int32} {x1 : Int32} {x2 : Int32} {o_books : Nat → Int32} {o_sheets : Nat → Int32} {o_knowns : Nat → Int32} {o_digs : Nat → Int32} {o_told : Nat → Int32} {o_marsh : Nat → Int32} {o_oldest : Nat → Int32} {o_youngest : Nat → Int32} {o_known : Nat → Int32} {o_weight : Nat → Int64} : ∀ (k : Nat) (x3 : Int32) (s_books : Nat → Int32) (s_sheets : Nat → Int32) (s_knowns : Nat → Int32) (s_digs : Nat → Int32) (s_told : Nat → Int32) (s_marsh : Nat → Int32) (s_oldest : Nat → Int32) (s_youngest : Nat → Int32) (s_known : Nat → Int32) (s_weight : Nat → Int64), f_X12_copy_50 x1 x2 k x3 s_books s_sheets s_knowns s_digs s_told s_marsh s_oldest s_youngest s_known s_weight = some (o_books, o_sheets, o_knowns, o_digs, o_told, o_marsh, o_oldest, o_youngest, o_known, o_weight) → ∀ (H : Heap) (locs : List Loc), va_P D vwCl (w_X12_copy a0 q_books q_sheets q_knowns q_digs q_told q_marsh q_oldest q_youngest q_known q_weight q_text q_depths q_tune q_far q_years q_months q_ring q_woods q_ends q_wood q_chance q_draft q_isKept cA s_trace s_typed s_earliest s_latest s_firstYear s_rings s_books s_sheets s_knowns s_digs s_told s_marsh s_oldest s_youngest s_known s_weight) H → va_D A (w_X12_copy a0 q_books q_sheets q_knowns q_digs q_told q_marsh q_oldest q_youngest q_known q_weight q_text q_depths q_tune q_far q_years q_months q_ring q_woods q_ends q_wood q_chance q_draft q_isKept cA s_trace s_typed s_earliest s_latest s_firstYear s_rings s_books s_sheets s_knowns s_digs s_told s_marsh s_oldest s_youngest s_known s_weight) → va_S A s.heap H locs → ∀ ls : Array Slot, lv_has ls 4 [(0, .ref a0), (1, .int x1), (2, .int x2), (3, .int x3)] → W p l e rm_X12_copy s m args below meth c H locs 0 0 (MQ below (CQ D none (w_X12_copy a0 q_books q_sheets q_knowns q_digs q_told q_marsh q_oldest q_youngest q_known q_weight q_text q_depths q_tune q_far q_years q_months q_ring q_woods q_ends q_wood q_chance q_draft q_isKept cA s_trace s_typed s_earliest s_latest s_firstYear s_rings o_books o_sheets o_knowns o_digs o_told o_marsh o_oldest o_youngest o_known o_weight) A) args s 0 0 A) (F0 m 50 ls []) := by
  obtain ⟨hx, hb, hml, hown, hts, hr, hlocks, hX⟩ := C0
  have hK := hX.1
  have hN := hX.2
  intro k
  induction k with
  | zero =>
    intro x3 s_books s_sheets s_knowns s_digs s_told s_marsh s_oldest s_youngest s_known s_weight hf
    cases hf
  | succ k ih =>
    intro x3 s_books s_sheets s_knowns s_digs s_told s_marsh s_oldest s_youngest s_known s_weight hf H locs hP hD hS ls hl
    rw [f_X12_copy_50] at hf
    refine lv_iload_n hx hb dX12_copy_50 rfl (lv_at hl 3 rfl) ?_
    refine lv_bipush (v := (30 : Int32)) hx hb dX12_copy_51 (by decide) ?_
    refine lv_icmp_ge (tgt := 84) hx hb dX12_copy_53 (by decide) (fun c_1 => ?_) (fun c_1 => ?_)
    · have hf := pbr_t c_1 hf
      refine lv_iconst (v := (0 : Int32)) hx hb dX12_copy_84 (by decide) ?_
      refine lv_istore_n (lv' := [(3, .int (0 : Int32)), (0, .ref a0), (1, .int x1), (2, .int x2)]) hx hb dX12_copy_85 rfl hl (by decide) rfl (fun ls hl => ?_)
      exact k_X12_copy_86 ⟨hx, hb, hml, hown, hts, hr, hlocks, hX⟩ hA FU (0 : Int32) s_books s_sheets s_knowns s_digs s_told s_marsh s_oldest s_youngest s_known s_weight hf _ _ hP hD hS ls (lv_sub hl [1, 2, 3, 0] rfl)
    have hf := pbr_f c_1 hf
    refine lv_aload_n hx hb dX12_copy_56 rfl (lv_at hl 0 rfl) ?_
    refine va_get (D := D) (ci := 12) (v := .ref q_told) (C := RX12) (T := TX12) (N := 29) hx hb hts hn_X12_copy_X12 hown hK hP 0 rfl rfl 7 (by decide) (hts _ hw_X12_copy_f26) (fun _ h9 => h9) rfl dX12_copy_57 ?_
    refine lv_bipush (v := (30 : Int32)) hx hb dX12_copy_60 (by decide) ?_
    refine lv_iload_n hx hb dX12_copy_62 rfl (lv_at hl 2 rfl) ?_
    refine lv_imul hx hb dX12_copy_63 ?_
    refine lv_iload_n hx hb dX12_copy_64 rfl (lv_at hl 3 rfl) ?_
    refine lv_iadd hx hb dX12_copy_65 ?_
    refine lv_aload_n hx hb dX12_copy_66 rfl (lv_at hl 0 rfl) ?_
    refine va_get (D := D) (ci := 12) (v := .ref q_told) (C := RX12) (T := TX12) (N := 29) hx hb hts hn_X12_copy_X12 hown hK hP 0 rfl rfl 7 (by decide) (hts _ hw_X12_copy_f26) (fun _ h9 => h9) rfl dX12_copy_67 ?_
    refine lv_bipush (v := (30 : Int32)) hx hb dX12_copy_70 (by decide) ?_
    refine lv_iload_n hx hb dX12_copy_72 rfl (lv_at hl 1 rfl) ?_
    refine lv_imul hx hb dX12_copy_73 ?_
    refine lv_iload_n hx hb dX12_copy_74 rfl (lv_at hl 3 rfl) ?_
    refine lv_iadd hx hb dX12_copy_75 ?_
    obtain ⟨g_2, hf⟩ := pgd_e hf
    refine va_iald hx hb hK hP 5 1 rfl rfl g_2 dX12_copy_76 ?_
    obtain ⟨g_3, hf⟩ := pgd_e hf
    refine va_iast hx hb hK hP hD hS 5 1 rfl rfl g_3 dX12_copy_77 (fun H locs hP hD hS => ?_)
    obtain ⟨f_4, ef_4⟩ : ∃ z : Nat → Int32, z = upd s_told (((30 : Int32) * x2) + x3).toNatClampNeg (s_told (((30 : Int32) * x1) + x3).toNatClampNeg) := ⟨_, rfl⟩
    have hf := plt_e ef_4 hf
    have hP : va_P D vwCl (w_X12_copy a0 q_books q_sheets q_knowns q_digs q_told q_marsh q_oldest q_youngest q_known q_weight q_text q_depths q_tune q_far q_years q_months q_ring q_woods q_ends q_wood q_chance q_draft q_isKept cA s_trace s_typed s_earliest s_latest s_firstYear s_rings s_books s_sheets s_knowns s_digs f_4 s_marsh s_oldest s_youngest s_known s_weight) H := by rw [ef_4]; exact hP
    have hD : va_D A (w_X12_copy a0 q_books q_sheets q_knowns q_digs q_told q_marsh q_oldest q_youngest q_known q_weight q_text q_depths q_tune q_far q_years q_months q_ring q_woods q_ends q_wood q_chance q_draft q_isKept cA s_trace s_typed s_earliest s_latest s_firstYear s_rings s_books s_sheets s_knowns s_digs f_4 s_marsh s_oldest s_youngest s_known s_weight) := by rw [ef_4]; exact hD
    obtain ⟨x3_5, ex3_5⟩ : ∃ z : Int32, z = x3 + (1 : Int32) := ⟨_, rfl⟩
    have hf := plt_e ex3_5 hf
    refine lv_iinc (v := x3_5) (lv' := [(3, .int x3_5), (0, .ref a0), (1, .int x1), (2, .int x2)]) hx hb dX12_copy_78 hl (k := 3) rfl (by rw [ex3_5]; rfl) (by decide) rfl (fun ls hl => ?_)
    refine lv_goto (tgt := 50) hx hb dX12_copy_81 (by decide) ?_
    exact ih x3_5 s_books s_sheets s_knowns s_digs f_4 s_marsh s_oldest s_youngest s_known s_weight hf _ _ hP hD hS ls (lv_sub hl [1, 2, 3, 0] rfl)

def f_X12_copy (x1 : Int32) (x2 : Int32) (s_books : Nat → Int32) (s_sheets : Nat → Int32) (s_knowns : Nat → Int32) (s_digs : Nat → Int32) (s_told : Nat → Int32) (s_marsh : Nat → Int32) (s_oldest : Nat → Int32) (s_youngest : Nat → Int32) (s_known : Nat → Int32) (s_weight : Nat → Int64) : Option ((Nat → Int32) × (Nat → Int32) × (Nat → Int32) × (Nat → Int32) × (Nat → Int32) × (Nat → Int32) × (Nat → Int32) × (Nat → Int32) × (Nat → Int32) × (Nat → Int64)) :=
  pgd (pin x1 3) (
  pgd (pin x2 3) (
  plt (upd s_books x2.toNatClampNeg (s_books x1.toNatClampNeg) : Nat → Int32) (fun f_3 => (
  plt (upd s_sheets x2.toNatClampNeg (s_sheets x1.toNatClampNeg) : Nat → Int32) (fun f_4 => (
  plt (upd s_knowns x2.toNatClampNeg (s_knowns x1.toNatClampNeg) : Nat → Int32) (fun f_5 => (
  plt (upd s_digs x2.toNatClampNeg (s_digs x1.toNatClampNeg) : Nat → Int32) (fun f_6 => (
  f_X12_copy_50 x1 x2 FU (0 : Int32) f_3 f_4 f_5 f_6 s_told s_marsh s_oldest s_youngest s_known s_weight))))))))))

set_option maxRecDepth 100000 in
set_option maxHeartbeats 4000000 in
theorem ct_X12_copy (l : Launch) (D : va_G) (cA : Nat → ClassId) (x1 : Int32) (x2 : Int32) (a0 : Nat) (q_books : Nat) (q_sheets : Nat) (q_knowns : Nat) (q_digs : Nat) (q_told : Nat) (q_marsh : Nat) (q_oldest : Nat) (q_youngest : Nat) (q_known : Nat) (q_weight : Nat) (q_text : Nat) (q_depths : Nat) (q_tune : Nat) (q_far : Nat) (q_years : Nat) (q_months : Nat) (q_ring : Nat) (q_woods : Nat) (q_ends : Nat) (q_wood : Nat) (q_chance : Nat) (q_draft : Nat) (q_isKept : Nat) (s_trace : Int64) (s_typed : Int32) (s_earliest : Int32) (s_latest : Int32) (s_firstYear : Int32) (s_rings : Int32) (s_books : Nat → Int32) (s_sheets : Nat → Int32) (s_knowns : Nat → Int32) (s_digs : Nat → Int32) (s_told : Nat → Int32) (s_marsh : Nat → Int32) (s_oldest : Nat → Int32) (s_youngest : Nat → Int32) (s_known : Nat → Int32) (s_weight : Nat → Int64) (o_books : Nat → Int32) (o_sheets : Nat → Int32) (o_knowns : Nat → Int32) (o_digs : Nat → Int32) (o_told : Nat → Int32) (o_marsh : Nat → Int32) (o_oldest : Nat → Int32) (o_youngest : Nat → Int32) (o_known : Nat → Int32) (o_weight : Nat → Int64) (hf : f_X12_copy x1 x2 s_books s_sheets s_knowns s_digs s_told s_marsh s_oldest s_youngest s_known s_weight = some (o_books, o_sheets, o_knowns, o_digs, o_told, o_marsh, o_oldest, o_youngest, o_known, o_weight)) : CT l yX12_copy wsX12_copy rm_X12_copy D cA [.ref a0, .int x1, .int x2] (w_X12_copy a0 q_books q_sheets q_knowns q_digs q_told q_marsh q_oldest q_youngest q_known q_weight q_text q_depths q_tune q_far q_years q_months q_ring q_woods q_ends q_wood q_chance q_draft q_isKept cA s_trace s_typed s_earliest s_latest s_firstYear s_rings s_books s_sheets s_knowns s_digs s_told s_marsh s_oldest s_youngest s_known s_weight) (w_X12_copy a0 q_books q_sheets q_knowns q_digs q_told q_marsh q_oldest q_youngest q_known q_weight q_text q_depths q_tune q_far q_years q_months q_ring q_woods q_ends q_wood q_chance q_draft q_isKept cA s_trace s_typed s_earliest s_latest s_firstYear s_rings o_books o_sheets o_knowns o_digs o_told o_marsh o_oldest o_youngest o_known o_weight) none := by
  refine CT.ofW (cc := cX12_copy) (maxL := 4) (ret := none) (by decide +kernel) rfl (Nat.le_of_ble_eq_true rfl) ?_
  intro p e s m below meth c A C0 hA hP hD ls hl
  have C0 : MX p s m [.ref a0, .int x1, .int x2].toArray meth c cX12_copy 4 wsX12_copy RX12 none D cA := C0
  have hl : lv_has ls 4 [(0, .ref a0), (1, .int x1), (2, .int x2)] := hl
  obtain ⟨hx, hb, hml, hown, hts, hr, hlocks, hX⟩ := id C0
  have hK := hX.1
  have hN := hX.2
  have hS : va_S A s.heap s.heap [] := va_S.rf
  unfold f_X12_copy at hf
  refine lv_aload_n hx hb dX12_copy_0 rfl (lv_at hl 0 rfl) ?_
  refine va_get (D := D) (ci := 12) (v := .ref q_books) (C := RX12) (T := TX12) (N := 29) hx hb hts hn_X12_copy_X12 hown hK hP 0 rfl rfl 6 (by decide) (hts _ hw_X12_copy_f23) (fun _ h9 => h9) rfl dX12_copy_1 ?_
  refine lv_iload_n hx hb dX12_copy_4 rfl (lv_at hl 2 rfl) ?_
  refine lv_aload_n hx hb dX12_copy_5 rfl (lv_at hl 0 rfl) ?_
  refine va_get (D := D) (ci := 12) (v := .ref q_books) (C := RX12) (T := TX12) (N := 29) hx hb hts hn_X12_copy_X12 hown hK hP 0 rfl rfl 6 (by decide) (hts _ hw_X12_copy_f23) (fun _ h9 => h9) rfl dX12_copy_6 ?_
  refine lv_iload_n hx hb dX12_copy_9 rfl (lv_at hl 1 rfl) ?_
  obtain ⟨g_1, hf⟩ := pgd_e hf
  refine va_iald hx hb hK hP 1 1 rfl rfl g_1 dX12_copy_10 ?_
  obtain ⟨g_2, hf⟩ := pgd_e hf
  refine va_iast hx hb hK hP hD hS 1 1 rfl rfl g_2 dX12_copy_11 (fun H locs hP hD hS => ?_)
  obtain ⟨f_3, ef_3⟩ : ∃ z : Nat → Int32, z = upd s_books x2.toNatClampNeg (s_books x1.toNatClampNeg) := ⟨_, rfl⟩
  have hf := plt_e ef_3 hf
  have hP : va_P D vwCl (w_X12_copy a0 q_books q_sheets q_knowns q_digs q_told q_marsh q_oldest q_youngest q_known q_weight q_text q_depths q_tune q_far q_years q_months q_ring q_woods q_ends q_wood q_chance q_draft q_isKept cA s_trace s_typed s_earliest s_latest s_firstYear s_rings f_3 s_sheets s_knowns s_digs s_told s_marsh s_oldest s_youngest s_known s_weight) H := by rw [ef_3]; exact hP
  have hD : va_D A (w_X12_copy a0 q_books q_sheets q_knowns q_digs q_told q_marsh q_oldest q_youngest q_known q_weight q_text q_depths q_tune q_far q_years q_months q_ring q_woods q_ends q_wood q_chance q_draft q_isKept cA s_trace s_typed s_earliest s_latest s_firstYear s_rings f_3 s_sheets s_knowns s_digs s_told s_marsh s_oldest s_youngest s_known s_weight) := by rw [ef_3]; exact hD
  refine lv_aload_n hx hb dX12_copy_12 rfl (lv_at hl 0 rfl) ?_
  refine va_get (D := D) (ci := 12) (v := .ref q_sheets) (C := RX12) (T := TX12) (N := 29) hx hb hts hn_X12_copy_X12 hown hK hP 0 rfl rfl 18 (by decide) (hts _ hw_X12_copy_f47) (fun _ h9 => h9) rfl dX12_copy_13 ?_
  refine lv_iload_n hx hb dX12_copy_16 rfl (lv_at hl 2 rfl) ?_
  refine lv_aload_n hx hb dX12_copy_17 rfl (lv_at hl 0 rfl) ?_
  refine va_get (D := D) (ci := 12) (v := .ref q_sheets) (C := RX12) (T := TX12) (N := 29) hx hb hts hn_X12_copy_X12 hown hK hP 0 rfl rfl 18 (by decide) (hts _ hw_X12_copy_f47) (fun _ h9 => h9) rfl dX12_copy_18 ?_
  refine lv_iload_n hx hb dX12_copy_21 rfl (lv_at hl 1 rfl) ?_
  refine va_iald hx hb hK hP 2 1 rfl rfl g_1 dX12_copy_22 ?_
  refine va_iast hx hb hK hP hD hS 2 1 rfl rfl g_2 dX12_copy_23 (fun H locs hP hD hS => ?_)
  obtain ⟨f_4, ef_4⟩ : ∃ z : Nat → Int32, z = upd s_sheets x2.toNatClampNeg (s_sheets x1.toNatClampNeg) := ⟨_, rfl⟩
  have hf := plt_e ef_4 hf
  have hP : va_P D vwCl (w_X12_copy a0 q_books q_sheets q_knowns q_digs q_told q_marsh q_oldest q_youngest q_known q_weight q_text q_depths q_tune q_far q_years q_months q_ring q_woods q_ends q_wood q_chance q_draft q_isKept cA s_trace s_typed s_earliest s_latest s_firstYear s_rings f_3 f_4 s_knowns s_digs s_told s_marsh s_oldest s_youngest s_known s_weight) H := by rw [ef_4]; exact hP
  have hD : va_D A (w_X12_copy a0 q_books q_sheets q_knowns q_digs q_told q_marsh q_oldest q_youngest q_known q_weight q_text q_depths q_tune q_far q_years q_months q_ring q_woods q_ends q_wood q_chance q_draft q_isKept cA s_trace s_typed s_earliest s_latest s_firstYear s_rings f_3 f_4 s_knowns s_digs s_told s_marsh s_oldest s_youngest s_known s_weight) := by rw [ef_4]; exact hD
  refine lv_aload_n hx hb dX12_copy_24 rfl (lv_at hl 0 rfl) ?_
  refine va_get (D := D) (ci := 12) (v := .ref q_knowns) (C := RX12) (T := TX12) (N := 29) hx hb hts hn_X12_copy_X12 hown hK hP 0 rfl rfl 22 (by decide) (hts _ hw_X12_copy_f59) (fun _ h9 => h9) rfl dX12_copy_25 ?_
  refine lv_iload_n hx hb dX12_copy_28 rfl (lv_at hl 2 rfl) ?_
  refine lv_aload_n hx hb dX12_copy_29 rfl (lv_at hl 0 rfl) ?_
  refine va_get (D := D) (ci := 12) (v := .ref q_knowns) (C := RX12) (T := TX12) (N := 29) hx hb hts hn_X12_copy_X12 hown hK hP 0 rfl rfl 22 (by decide) (hts _ hw_X12_copy_f59) (fun _ h9 => h9) rfl dX12_copy_30 ?_
  refine lv_iload_n hx hb dX12_copy_33 rfl (lv_at hl 1 rfl) ?_
  refine va_iald hx hb hK hP 3 1 rfl rfl g_1 dX12_copy_34 ?_
  refine va_iast hx hb hK hP hD hS 3 1 rfl rfl g_2 dX12_copy_35 (fun H locs hP hD hS => ?_)
  obtain ⟨f_5, ef_5⟩ : ∃ z : Nat → Int32, z = upd s_knowns x2.toNatClampNeg (s_knowns x1.toNatClampNeg) := ⟨_, rfl⟩
  have hf := plt_e ef_5 hf
  have hP : va_P D vwCl (w_X12_copy a0 q_books q_sheets q_knowns q_digs q_told q_marsh q_oldest q_youngest q_known q_weight q_text q_depths q_tune q_far q_years q_months q_ring q_woods q_ends q_wood q_chance q_draft q_isKept cA s_trace s_typed s_earliest s_latest s_firstYear s_rings f_3 f_4 f_5 s_digs s_told s_marsh s_oldest s_youngest s_known s_weight) H := by rw [ef_5]; exact hP
  have hD : va_D A (w_X12_copy a0 q_books q_sheets q_knowns q_digs q_told q_marsh q_oldest q_youngest q_known q_weight q_text q_depths q_tune q_far q_years q_months q_ring q_woods q_ends q_wood q_chance q_draft q_isKept cA s_trace s_typed s_earliest s_latest s_firstYear s_rings f_3 f_4 f_5 s_digs s_told s_marsh s_oldest s_youngest s_known s_weight) := by rw [ef_5]; exact hD
  refine lv_aload_n hx hb dX12_copy_36 rfl (lv_at hl 0 rfl) ?_
  refine va_get (D := D) (ci := 12) (v := .ref q_digs) (C := RX12) (T := TX12) (N := 29) hx hb hts hn_X12_copy_X12 hown hK hP 0 rfl rfl 26 (by decide) (hts _ hw_X12_copy_f72) (fun _ h9 => h9) rfl dX12_copy_37 ?_
  refine lv_iload_n hx hb dX12_copy_40 rfl (lv_at hl 2 rfl) ?_
  refine lv_aload_n hx hb dX12_copy_41 rfl (lv_at hl 0 rfl) ?_
  refine va_get (D := D) (ci := 12) (v := .ref q_digs) (C := RX12) (T := TX12) (N := 29) hx hb hts hn_X12_copy_X12 hown hK hP 0 rfl rfl 26 (by decide) (hts _ hw_X12_copy_f72) (fun _ h9 => h9) rfl dX12_copy_42 ?_
  refine lv_iload_n hx hb dX12_copy_45 rfl (lv_at hl 1 rfl) ?_
  refine va_iald hx hb hK hP 4 1 rfl rfl g_1 dX12_copy_46 ?_
  refine va_iast hx hb hK hP hD hS 4 1 rfl rfl g_2 dX12_copy_47 (fun H locs hP hD hS => ?_)
  obtain ⟨f_6, ef_6⟩ : ∃ z : Nat → Int32, z = upd s_digs x2.toNatClampNeg (s_digs x1.toNatClampNeg) := ⟨_, rfl⟩
  have hf := plt_e ef_6 hf
  have hP : va_P D vwCl (w_X12_copy a0 q_books q_sheets q_knowns q_digs q_told q_marsh q_oldest q_youngest q_known q_weight q_text q_depths q_tune q_far q_years q_months q_ring q_woods q_ends q_wood q_chance q_draft q_isKept cA s_trace s_typed s_earliest s_latest s_firstYear s_rings f_3 f_4 f_5 f_6 s_told s_marsh s_oldest s_youngest s_known s_weight) H := by rw [ef_6]; exact hP
  have hD : va_D A (w_X12_copy a0 q_books q_sheets q_knowns q_digs q_told q_marsh q_oldest q_youngest q_known q_weight q_text q_depths q_tune q_far q_years q_months q_ring q_woods q_ends q_wood q_chance q_draft q_isKept cA s_trace s_typed s_earliest s_latest s_firstYear s_rings f_3 f_4 f_5 f_6 s_told s_marsh s_oldest s_youngest s_known s_weight) := by rw [ef_6]; exact hD
  refine lv_iconst (v := (0 : Int32)) hx hb dX12_copy_48 (by decide) ?_
  refine lv_istore_n (lv' := [(3, .int (0 : Int32)), (0, .ref a0), (1, .int x1), (2, .int x2)]) hx hb dX12_copy_49 rfl hl (by decide) rfl (fun ls hl => ?_)
  exact k_X12_copy_50 C0 hA FU (0 : Int32) f_3 f_4 f_5 f_6 s_told s_marsh s_oldest s_youngest s_known s_weight hf _ _ hP hD hS ls (lv_sub hl [1, 2, 3, 0] rfl)
