/-! ===== OrphanWaveModel.even()I ===== -/
abbrev rm_X12_even : Room := { frames := 0, cells := 0, slots := 0, locals := 0 }
abbrev w_X12_even (a0 : Nat) (q_knowns : Nat) (q_known : Nat) (q_text : Nat) (q_depths : Nat) (q_tune : Nat) (q_far : Nat) (q_books : Nat) (q_told : Nat) (q_years : Nat) (q_months : Nat) (q_ring : Nat) (q_woods : Nat) (q_ends : Nat) (q_wood : Nat) (q_sheets : Nat) (q_marsh : Nat) (q_oldest : Nat) (q_youngest : Nat) (q_weight : Nat) (q_chance : Nat) (q_digs : Nat) (q_draft : Nat) (q_isKept : Nat) (cA : Nat → ClassId) (s_trace : Int64) (s_typed : Int32) (s_earliest : Int32) (s_latest : Int32) (s_firstYear : Int32) (s_rings : Int32) (s_knowns : Nat → Int32) (s_known : Nat → Int32) : va_W := [(a0, .inr (12, [.long s_trace, .ref q_text, .int s_typed, .ref q_depths, .ref q_tune, .ref q_far, .ref q_books, .ref q_told, .int s_earliest, .int s_latest, .ref q_years, .ref q_months, .int s_firstYear, .int s_rings, .ref q_ring, .ref q_woods, .ref q_ends, .ref q_wood, .ref q_sheets, .ref q_marsh, .ref q_oldest, .ref q_youngest, .ref q_knowns, .ref q_known, .ref q_weight, .ref q_chance, .ref q_digs, .ref q_draft, .ref q_isKept])), (q_knowns, .inl (cA 1, 3, .inl s_knowns)), (q_known, .inl (cA 1, 48, .inl s_known))]
theorem hn_X12_even_X12 : ∀ w ∈ u_ws RX12 TX12 29, w ∈ wsX12_even := by decide +kernel
theorem hw_X12_even_c107 : Cond.constant RX12 107 (1000000) ∈ wsX12_even := by decide +kernel
theorem hw_X12_even_f59 : Cond.fieldLink RX12 59 "OrphanWaveModel" "knowns" "[I" ∈ wsX12_even := by decide +kernel
theorem hw_X12_even_f62 : Cond.fieldLink RX12 62 "OrphanWaveModel" "known" "[I" ∈ wsX12_even := by decide +kernel

def f_X12_even_46 (r7 : (Int32) → (Int32) → (Int32) → Option ((Int32))) (s_knowns : Nat → Int32) (s_known : Nat → Int32) (x2 : Int32) (x3 : Int32) (x4 : Int32) (z0 : Int32) : Option ((Int32)) :=
  pbr (x4 ≤ x2)
    (plt (x3 + (1 : Int32) : Int32) (fun x3_2 => (
    r7 z0 x2 x3_2)))
    (plt (x3 + (1 : Int32) : Int32) (fun x3_3 => (
    r7 z0 x4 x3_3)))

set_option maxRecDepth 100000 in
set_option maxHeartbeats 4000000 in
theorem k_X12_even_46 {p : Program} {l : Launch} {e : Env} {s : State} {m : MethodId} {args : Array Value} {below : List Frame} {meth : Method} {c : Code} {A : Nat → Prop} {D : va_G} {cA : Nat → ClassId} (C0 : MX p s m args meth c cX12_even 5 wsX12_even RX12 (some .int) D cA) (hA : ∀ q, s.heap.size ≤ q → A q) {a0 : Nat} {q_knowns : Nat} {q_known : Nat} {q_text : Nat} {q_depths : Nat} {q_tune : Nat} {q_far : Nat} {q_books : Nat} {q_told : Nat} {q_years : Nat} {q_months : Nat} {q_ring : Nat} {q_woods : Nat} {q_ends : Nat} {q_wood : Nat} {q_sheets : Nat} {q_marsh : Nat} {q_oldest : Nat} {q_youngest : Nat} {q_weight : Nat} {q_chance : Nat} {q_digs : Nat} {q_draft : Nat} {q_isKept : Nat} {s_trace : Int64} {s_typed : Int32} {s_earliest : Int32} {s_latest : Int32} {s_firstYear : Int32} {s_rings : Int32} {s_knowns : Nat → Int32} {s_known : Nat → Int32} {o_r : Int32} {r7 : (Int32) → (Int32) → (Int32) → Option ((Int32))} (hr7 : ∀ (x1 : Int32) (x2 : Int32) (x3 : Int32), r7 x1 x2 x3 = some o_r → ∀ (H : Heap) (locs : List Loc), va_P D vwCl (w_X12_even a0 q_knowns q_known q_text q_depths q_tune q_far q_books q_told q_years q_months q_ring q_woods q_ends q_wood q_sheets q_marsh q_oldest q_youngest q_weight q_chance q_digs q_draft q_isKept cA s_trace s_typed s_earliest s_latest s_firstYear s_rings s_knowns s_known) H → va_D A (w_X12_even a0 q_knowns q_known q_text q_depths q_tune q_far q_books q_told q_years q_months q_ring q_woods q_ends q_wood q_sheets q_marsh q_oldest q_youngest q_weight q_chance q_digs q_draft q_isKept cA s_trace s_typed s_earliest s_latest s_firstYear s_rings s_knowns s_known) → va_S A s.heap H locs → ∀ ls : Array Slot, lv_has ls 5 [(0, .ref a0), (1, .int x1), (2, .int x2), (3, .int x3)] → W p l e rm_X12_even s m args below meth c H locs 0 0 (MQ below (CQ D (some (.int o_r)) (w_X12_even a0 q_knowns q_known q_text q_depths q_tune q_far q_books q_told q_years q_months q_ring q_woods q_ends q_wood q_sheets q_marsh q_oldest q_youngest q_weight q_chance q_digs q_draft q_isKept cA s_trace s_typed s_earliest s_latest s_firstYear s_rings s_knowns s_known) A) args s 0 0 A) (F0 m 7 ls [])) : ∀ (x2 : Int32) (x3 : Int32) (x4 : Int32) (z0 : Int32), f_X12_even_46 r7 s_knowns s_known x2 x3 x4 z0 = some o_r → ∀ (H : Heap) (locs : List Loc), va_P D vwCl (w_X12_even a0 q_knowns q_known q_text q_depths q_tune q_far q_books q_told q_years q_months q_ring q_woods q_ends q_wood q_sheets q_marsh q_oldest q_youngest q_weight q_chance q_digs q_draft q_isKept cA s_trace s_typed s_earliest s_latest s_firstYear s_rings s_knowns s_known) H → va_D A (w_X12_even a0 q_knowns q_known q_text q_depths q_tune q_far q_books q_told q_years q_months q_ring q_woods q_ends q_wood q_sheets q_marsh q_oldest q_youngest q_weight q_chance q_digs q_draft q_isKept cA s_trace s_typed s_earliest s_latest s_firstYear s_rings s_knowns s_known) → va_S A s.heap H locs → ∀ ls : Array Slot, lv_has ls 5 [(0, .ref a0), (2, .int x2), (3, .int x3), (4, .int x4)] → W p l e rm_X12_even s m args below meth c H locs 0 0 (MQ below (CQ D (some (.int o_r)) (w_X12_even a0 q_knowns q_known q_text q_depths q_tune q_far q_books q_told q_years q_months q_ring q_woods q_ends q_wood q_sheets q_marsh q_oldest q_youngest q_weight q_chance q_digs q_draft q_isKept cA s_trace s_typed s_earliest s_latest s_firstYear s_rings s_knowns s_known) A) args s 0 0 A) (F0 m 46 ls [.int z0]) := by
  obtain ⟨hx, hb, hml, hown, hts, hr, hlocks, hX⟩ := C0
  have hK := hX.1
  have hN := hX.2
  intro x2 x3 x4 z0 hf H locs hP hD hS ls hl
  unfold f_X12_even_46 at hf
  refine lv_istore_n (lv' := [(1, .int z0), (0, .ref a0), (2, .int x2), (3, .int x3), (4, .int x4)]) hx hb dX12_even_46 rfl hl (by decide) rfl (fun ls hl => ?_)
  refine lv_iload hx hb dX12_even_47 (lv_at hl 4 rfl) ?_
  refine lv_iload_n hx hb dX12_even_49 rfl (lv_at hl 2 rfl) ?_
  refine lv_icmp_le (tgt := 58) hx hb dX12_even_50 (by decide) (fun c_1 => ?_) (fun c_1 => ?_)
  · have hf := pbr_t c_1 hf
    refine lv_iload_n hx hb dX12_even_58 rfl (lv_at hl 2 rfl) ?_
    refine lv_istore_n (lv' := [(2, .int x2), (1, .int z0), (0, .ref a0), (3, .int x3), (4, .int x4)]) hx hb dX12_even_59 rfl hl (by decide) rfl (fun ls hl => ?_)
    obtain ⟨x3_2, ex3_2⟩ : ∃ z : Int32, z = x3 + (1 : Int32) := ⟨_, rfl⟩
    have hf := plt_e ex3_2 hf
    refine lv_iinc (v := x3_2) (lv' := [(3, .int x3_2), (2, .int x2), (1, .int z0), (0, .ref a0), (4, .int x4)]) hx hb dX12_even_60 hl (k := 3) rfl (by rw [ex3_2]; rfl) (by decide) rfl (fun ls hl => ?_)
    refine lv_goto (tgt := 7) hx hb dX12_even_63 (by decide) ?_
    exact hr7 z0 x2 x3_2 hf _ _ hP hD hS ls (lv_sub hl [3, 2, 1, 0] rfl)
  have hf := pbr_f c_1 hf
  refine lv_iload hx hb dX12_even_53 (lv_at hl 4 rfl) ?_
  refine lv_goto (tgt := 59) hx hb dX12_even_55 (by decide) ?_
  refine lv_istore_n (lv' := [(2, .int x4), (1, .int z0), (0, .ref a0), (3, .int x3), (4, .int x4)]) hx hb dX12_even_59 rfl hl (by decide) rfl (fun ls hl => ?_)
  obtain ⟨x3_3, ex3_3⟩ : ∃ z : Int32, z = x3 + (1 : Int32) := ⟨_, rfl⟩
  have hf := plt_e ex3_3 hf
  refine lv_iinc (v := x3_3) (lv' := [(3, .int x3_3), (2, .int x4), (1, .int z0), (0, .ref a0), (4, .int x4)]) hx hb dX12_even_60 hl (k := 3) rfl (by rw [ex3_3]; rfl) (by decide) rfl (fun ls hl => ?_)
  refine lv_goto (tgt := 7) hx hb dX12_even_63 (by decide) ?_
  exact hr7 z0 x4 x3_3 hf _ _ hP hD hS ls (lv_sub hl [3, 2, 1, 0] rfl)

def f_X12_even_7 (s_knowns : Nat → Int32) (s_known : Nat → Int32) : Nat → (Int32) → (Int32) → (Int32) → Option ((Int32))
  | 0, _, _, _ => none
  | k + 1, x1, x2, x3 =>
    pbr ((s_knowns (0 : Int32).toNatClampNeg) ≤ x3)
      (pbr (x2 = 0)
        (some ((-9 : Int32)))
        (pgd (¬ x2 = 0) (
        some ((((1000 : Int32) * x1) / x2)))))
      (pgd (pin x3 48) (
      pgd (pin (x3 - (1 : Int32)) 48) (
      plt (((s_known x3.toNatClampNeg) - (s_known (x3 - (1 : Int32)).toNatClampNeg)) : Int32) (fun x4_6 => (
      pbr (x1 ≤ x4_6)
        (f_X12_even_46 (f_X12_even_7 s_knowns s_known k) s_knowns s_known x2 x3 x4_6 x1)
        (f_X12_even_46 (f_X12_even_7 s_knowns s_known k) s_knowns s_known x2 x3 x4_6 x4_6))))))

set_option maxRecDepth 100000 in
set_option maxHeartbeats 4000000 in
theorem k_X12_even_7 {p : Program} {l : Launch} {e : Env} {s : State} {m : MethodId} {args : Array Value} {below : List Frame} {meth : Method} {c : Code} {A : Nat → Prop} {D : va_G} {cA : Nat → ClassId} (C0 : MX p s m args meth c cX12_even 5 wsX12_even RX12 (some .int) D cA) (hA : ∀ q, s.heap.size ≤ q → A q) {a0 : Nat} {q_knowns : Nat} {q_known : Nat} {q_text : Nat} {q_depths : Nat} {q_tune : Nat} {q_far : Nat} {q_books : Nat} {q_told : Nat} {q_years : Nat} {q_months : Nat} {q_ring : Nat} {q_woods : Nat} {q_ends : Nat} {q_wood : Nat} {q_sheets : Nat} {q_marsh : Nat} {q_oldest : Nat} {q_youngest : Nat} {q_weight : Nat} {q_chance : Nat} {q_digs : Nat} {q_draft : Nat} {q_isKept : Nat} {s_trace : Int64} {s_typed : Int32} {s_earliest : Int32} {s_latest : Int32} {s_firstYear : Int32} {s_rings : Int32} {s_knowns : Nat → Int32} {s_known : Nat → Int32} {o_r : Int32} : ∀ (k : Nat) (x1 : Int32) (x2 : Int32) (x3 : Int32), f_X12_even_7 s_knowns s_known k x1 x2 x3 = some o_r → ∀ (H : Heap) (locs : List Loc), va_P D vwCl (w_X12_even a0 q_knowns q_known q_text q_depths q_tune q_far q_books q_told q_years q_months q_ring q_woods q_ends q_wood q_sheets q_marsh q_oldest q_youngest q_weight q_chance q_digs q_draft q_isKept cA s_trace s_typed s_earliest s_latest s_firstYear s_rings s_knowns s_known) H → va_D A (w_X12_even a0 q_knowns q_known q_text q_depths q_tune q_far q_books q_told q_years q_months q_ring q_woods q_ends q_wood q_sheets q_marsh q_oldest q_youngest q_weight q_chance q_digs q_draft q_isKept cA s_trace s_typed s_earliest s_latest s_firstYear s_rings s_knowns s_known) → va_S A s.heap H locs → ∀ ls : Array Slot, lv_has ls 5 [(0, .ref a0), (1, .int x1), (2, .int x2), (3, .int x3)] → W p l e rm_X12_even s m args below meth c H locs 0 0 (MQ below (CQ D (some (.int o_r)) (w_X12_even a0 q_knowns q_known q_text q_depths q_tune q_far q_books q_told q_years q_months q_ring q_woods q_ends q_wood q_sheets q_marsh q_oldest q_youngest q_weight q_chance q_digs q_draft q_isKept cA s_trace s_typed s_earliest s_latest s_firstYear s_rings s_knowns s_known) A) args s 0 0 A) (F0 m 7 ls []) := by
  obtain ⟨hx, hb, hml, hown, hts, hr, hlocks, hX⟩ := C0
  have hK := hX.1
  have hN := hX.2
  intro k
  induction k with
  | zero =>
    intro x1 x2 x3 hf
    cases hf
  | succ k ih =>
    intro x1 x2 x3 hf H locs hP hD hS ls hl
    rw [f_X12_even_7] at hf
    refine lv_iload_n hx hb dX12_even_7 rfl (lv_at hl 3 rfl) ?_
    refine lv_aload_n hx hb dX12_even_8 rfl (lv_at hl 0 rfl) ?_
    refine va_get (D := D) (ci := 12) (v := .ref q_knowns) (C := RX12) (T := TX12) (N := 29) hx hb hts hn_X12_even_X12 hown hK hP 0 rfl rfl 22 (by decide) (hts _ hw_X12_even_f59) (fun _ h9 => h9) rfl dX12_even_9 ?_
    refine lv_iconst (v := (0 : Int32)) hx hb dX12_even_12 (by decide) ?_
    refine va_iald hx hb hK hP 1 1 rfl rfl (show pin (0 : Int32) 3 by decide +kernel) dX12_even_13 ?_
    refine lv_icmp_ge (tgt := 66) hx hb dX12_even_14 (by decide) (fun c_1 => ?_) (fun c_1 => ?_)
    · have hf := pbr_t c_1 hf
      refine lv_iload_n hx hb dX12_even_66 rfl (lv_at hl 2 rfl) ?_
      refine lv_if_ne (tgt := 75) hx hb dX12_even_67 (by decide) (fun c_2 => ?_) (fun c_2 => ?_)
      · have hf := pbr_f c_2 hf
        refine lv_sipush (v := (1000 : Int32)) hx hb dX12_even_75 (by decide) ?_
        refine lv_iload_n hx hb dX12_even_78 rfl (lv_at hl 1 rfl) ?_
        refine lv_imul hx hb dX12_even_79 ?_
        refine lv_iload_n hx hb dX12_even_80 rfl (lv_at hl 2 rfl) ?_
        obtain ⟨g_3, hf⟩ := pgd_e hf
        refine lv_idiv hx hb dX12_even_81 g_3 ?_
        obtain rfl := pe1 hf
        exact m_iret hx hb hr hlocks hP hS dX12_even_82
      have hf := pbr_t c_2 hf
      refine lv_bipush (v := (-9 : Int32)) hx hb dX12_even_70 (by decide) ?_
      refine lv_goto (tgt := 82) hx hb dX12_even_72 (by decide) ?_
      obtain rfl := pe1 hf
      exact m_iret hx hb hr hlocks hP hS dX12_even_82
    have hf := pbr_f c_1 hf
    refine lv_aload_n hx hb dX12_even_17 rfl (lv_at hl 0 rfl) ?_
    refine va_get (D := D) (ci := 12) (v := .ref q_known) (C := RX12) (T := TX12) (N := 29) hx hb hts hn_X12_even_X12 hown hK hP 0 rfl rfl 23 (by decide) (hts _ hw_X12_even_f62) (fun _ h9 => h9) rfl dX12_even_18 ?_
    refine lv_iload_n hx hb dX12_even_21 rfl (lv_at hl 3 rfl) ?_
    obtain ⟨g_4, hf⟩ := pgd_e hf
    refine va_iald hx hb hK hP 2 1 rfl rfl g_4 dX12_even_22 ?_
    refine lv_aload_n hx hb dX12_even_23 rfl (lv_at hl 0 rfl) ?_
    refine va_get (D := D) (ci := 12) (v := .ref q_known) (C := RX12) (T := TX12) (N := 29) hx hb hts hn_X12_even_X12 hown hK hP 0 rfl rfl 23 (by decide) (hts _ hw_X12_even_f62) (fun _ h9 => h9) rfl dX12_even_24 ?_
    refine lv_iload_n hx hb dX12_even_27 rfl (lv_at hl 3 rfl) ?_
    refine lv_iconst (v := (1 : Int32)) hx hb dX12_even_28 (by decide) ?_
    refine lv_isub hx hb dX12_even_29 ?_
    obtain ⟨g_5, hf⟩ := pgd_e hf
    refine va_iald hx hb hK hP 2 1 rfl rfl g_5 dX12_even_30 ?_
    refine lv_isub hx hb dX12_even_31 ?_
    refine lv_topi (fun x4_6 ex4_6 => ?_)
    have hf := plt_e ex4_6 hf
    refine lv_istore (lv' := [(4, .int x4_6), (0, .ref a0), (1, .int x1), (2, .int x2), (3, .int x3)]) hx hb dX12_even_32 hl (by decide) rfl (fun ls hl => ?_)
    refine lv_iload hx hb dX12_even_34 (lv_at hl 0 rfl) ?_
    refine lv_iload_n hx hb dX12_even_36 rfl (lv_at hl 2 rfl) ?_
    refine lv_icmp_ge (tgt := 45) hx hb dX12_even_37 (by decide) (fun c_7 => ?_) (fun c_7 => ?_)
    · have hf := pbr_t c_7 hf
      refine lv_iload_n hx hb dX12_even_45 rfl (lv_at hl 2 rfl) ?_
      exact k_X12_even_46 ⟨hx, hb, hml, hown, hts, hr, hlocks, hX⟩ hA ih x2 x3 x4_6 x1 hf _ _ hP hD hS ls (lv_sub hl [1, 3, 4, 0] rfl)
    have hf := pbr_f c_7 hf
    refine lv_iload hx hb dX12_even_40 (lv_at hl 0 rfl) ?_
    refine lv_goto (tgt := 46) hx hb dX12_even_42 (by decide) ?_
    exact k_X12_even_46 ⟨hx, hb, hml, hown, hts, hr, hlocks, hX⟩ hA ih x2 x3 x4_6 x4_6 hf _ _ hP hD hS ls (lv_sub hl [1, 3, 4, 0] rfl)

def f_X12_even (s_knowns : Nat → Int32) (s_known : Nat → Int32) : Option ((Int32)) :=
  f_X12_even_7 s_knowns s_known FU (1000000 : Int32) (0 : Int32) (1 : Int32)

set_option maxRecDepth 100000 in
set_option maxHeartbeats 4000000 in
theorem ct_X12_even (l : Launch) (D : va_G) (cA : Nat → ClassId) (a0 : Nat) (q_knowns : Nat) (q_known : Nat) (q_text : Nat) (q_depths : Nat) (q_tune : Nat) (q_far : Nat) (q_books : Nat) (q_told : Nat) (q_years : Nat) (q_months : Nat) (q_ring : Nat) (q_woods : Nat) (q_ends : Nat) (q_wood : Nat) (q_sheets : Nat) (q_marsh : Nat) (q_oldest : Nat) (q_youngest : Nat) (q_weight : Nat) (q_chance : Nat) (q_digs : Nat) (q_draft : Nat) (q_isKept : Nat) (s_trace : Int64) (s_typed : Int32) (s_earliest : Int32) (s_latest : Int32) (s_firstYear : Int32) (s_rings : Int32) (s_knowns : Nat → Int32) (s_known : Nat → Int32) (o_r : Int32) (hf : f_X12_even s_knowns s_known = some o_r) : CT l yX12_even wsX12_even rm_X12_even D cA [.ref a0] (w_X12_even a0 q_knowns q_known q_text q_depths q_tune q_far q_books q_told q_years q_months q_ring q_woods q_ends q_wood q_sheets q_marsh q_oldest q_youngest q_weight q_chance q_digs q_draft q_isKept cA s_trace s_typed s_earliest s_latest s_firstYear s_rings s_knowns s_known) (w_X12_even a0 q_knowns q_known q_text q_depths q_tune q_far q_books q_told q_years q_months q_ring q_woods q_ends q_wood q_sheets q_marsh q_oldest q_youngest q_weight q_chance q_digs q_draft q_isKept cA s_trace s_typed s_earliest s_latest s_firstYear s_rings s_knowns s_known) (some (.int o_r)) := by
  refine CT.ofW (cc := cX12_even) (maxL := 5) (ret := (some .int)) (by decide +kernel) rfl (Nat.le_of_ble_eq_true rfl) ?_
  intro p e s m below meth c A C0 hA hP hD ls hl
  have C0 : MX p s m [.ref a0].toArray meth c cX12_even 5 wsX12_even RX12 (some .int) D cA := C0
  have hl : lv_has ls 5 [(0, .ref a0)] := hl
  obtain ⟨hx, hb, hml, hown, hts, hr, hlocks, hX⟩ := id C0
  have hK := hX.1
  have hN := hX.2
  have hS : va_S A s.heap s.heap [] := va_S.rf
  unfold f_X12_even at hf
  refine lv_ldc (v := (1000000 : Int32)) hx hb hown (hts _ hw_X12_even_c107) dX12_even_0 ?_
  refine lv_istore_n (lv' := [(1, .int (1000000 : Int32)), (0, .ref a0)]) hx hb dX12_even_2 rfl hl (by decide) rfl (fun ls hl => ?_)
  refine lv_iconst (v := (0 : Int32)) hx hb dX12_even_3 (by decide) ?_
  refine lv_istore_n (lv' := [(2, .int (0 : Int32)), (1, .int (1000000 : Int32)), (0, .ref a0)]) hx hb dX12_even_4 rfl hl (by decide) rfl (fun ls hl => ?_)
  refine lv_iconst (v := (1 : Int32)) hx hb dX12_even_5 (by decide) ?_
  refine lv_istore_n (lv' := [(3, .int (1 : Int32)), (2, .int (0 : Int32)), (1, .int (1000000 : Int32)), (0, .ref a0)]) hx hb dX12_even_6 rfl hl (by decide) rfl (fun ls hl => ?_)
  exact k_X12_even_7 C0 hA FU (1000000 : Int32) (0 : Int32) (1 : Int32) hf _ _ hP hD hS ls (lv_sub hl [3, 2, 1, 0] rfl)

/-! ===== OrphanWaveModel.isStory(I)Z ===== -/
abbrev rm_X12_isStory : Room := { frames := 1, cells := 0, slots := 0, locals := 22 }
abbrev w_X12_isStory  (cA : Nat → ClassId)  : va_W := []

def f_X12_isStory (x0 : Int32) : Option ((Int32)) :=
  pcl (f_X12_in x0 (0 : Int32) (4 : Int32)) (fun r_1 => (
  pgd (r_1 = 0 ∨ r_1 = 1) (
  some (r_1))))

set_option maxRecDepth 100000 in
set_option maxHeartbeats 4000000 in
theorem ct_X12_isStory (l : Launch) (D : va_G) (cA : Nat → ClassId) (x0 : Int32) (o_r : Int32) (hf : f_X12_isStory x0 = some o_r) : CT l yX12_isStory wsX12_isStory rm_X12_isStory D cA [.int x0] (w_X12_isStory  cA ) (w_X12_isStory  cA ) (some (.int o_r)) := by
  refine CT.ofW (cc := cX12_isStory) (maxL := 1) (ret := (some .boolean)) (by decide +kernel) rfl (Nat.le_of_ble_eq_true rfl) ?_
  intro p e s m below meth c A C0 hA hP hD ls hl
  have C0 : MX p s m [.int x0].toArray meth c cX12_isStory 1 wsX12_isStory RX12 (some .boolean) D cA := C0
  have hl : lv_has ls 1 [(0, .int x0)] := hl
  obtain ⟨hx, hb, hml, hown, hts, hr, hlocks, hX⟩ := id C0
  have hK := hX.1
  have hN := hX.2
  have hS : va_S A s.heap s.heap [] := va_S.rf
  unfold f_X12_isStory at hf
  refine lv_iload_n hx hb dX12_isStory_0 rfl (lv_at hl 0 rfl) ?_
  refine lv_iconst (v := (0 : Int32)) hx hb dX12_isStory_1 (by decide) ?_
  refine lv_iconst (v := (4 : Int32)) hx hb dX12_isStory_2 (by decide) ?_
  obtain ⟨r_1, hc_2, hf⟩ := pcl_e hf
  refine m_callS2 (As := [.int x0, .int (0 : Int32), .int (4 : Int32)]) (rest := []) ⟨hx, hb, hml, hown, hts⟩ hX (ct_X12_in l D cA x0 (0 : Int32) (4 : Int32) r_1 hc_2) (va_cwS 3 hts gX12_isStory_X12_in rfl rfl rfl (by decide +kernel) ⟨Nat.le_of_ble_eq_true rfl, Nat.le_of_ble_eq_true rfl⟩) hP hD hS hA [] [] 0 (by decide) rfl rfl (WS' := (w_X12_isStory  cA )) (WR := []) rfl rfl rfl rfl (by decide) (by decide) rfl hl.1 rfl (st' := [.int r_1]) rfl (Nat.le_of_ble_eq_true rfl) ⟨Nat.zero_le _, Nat.zero_le _⟩ dX12_isStory_3 (fun H locs hP hD hS => ?_)
  obtain ⟨g_3, hf⟩ := pgd_e hf
  obtain rfl := pe1 hf
  exact m_zret g_3 hx hb hr hlocks hP hS dX12_isStory_6

/-! ===== OrphanWaveModel.story(II)J ===== -/
abbrev rm_X12_story : Room := { frames := 2, cells := 0, slots := 0, locals := 42 }
abbrev w_X12_story (a0 : Nat) (q_weight : Nat) (q_text : Nat) (q_depths : Nat) (q_tune : Nat) (q_far : Nat) (q_books : Nat) (q_told : Nat) (q_years : Nat) (q_months : Nat) (q_ring : Nat) (q_woods : Nat) (q_ends : Nat) (q_wood : Nat) (q_sheets : Nat) (q_marsh : Nat) (q_oldest : Nat) (q_youngest : Nat) (q_knowns : Nat) (q_known : Nat) (q_chance : Nat) (q_digs : Nat) (q_draft : Nat) (q_isKept : Nat) (cA : Nat → ClassId) (s_trace : Int64) (s_typed : Int32) (s_earliest : Int32) (s_latest : Int32) (s_firstYear : Int32) (s_rings : Int32) (s_weight : Nat → Int64) : va_W := [(a0, .inr (12, [.long s_trace, .ref q_text, .int s_typed, .ref q_depths, .ref q_tune, .ref q_far, .ref q_books, .ref q_told, .int s_earliest, .int s_latest, .ref q_years, .ref q_months, .int s_firstYear, .int s_rings, .ref q_ring, .ref q_woods, .ref q_ends, .ref q_wood, .ref q_sheets, .ref q_marsh, .ref q_oldest, .ref q_youngest, .ref q_knowns, .ref q_known, .ref q_weight, .ref q_chance, .ref q_digs, .ref q_draft, .ref q_isKept])), (q_weight, .inl (cA 2, 15, .inr (.inl s_weight)))]
theorem hn_X12_story_X12 : ∀ w ∈ u_ws RX12 TX12 29, w ∈ wsX12_story := by decide +kernel
theorem hw_X12_story_c170 : Cond.constantLong RX12 170 (-1) ∈ wsX12_story := by decide +kernel
theorem hw_X12_story_f65 : Cond.fieldLink RX12 65 "OrphanWaveModel" "weight" "[J" ∈ wsX12_story := by decide +kernel

def f_X12_story (x1 : Int32) (x2 : Int32) (s_weight : Nat → Int64) : Option ((Int64) × (Nat → Int64)) :=
  pcl (f_X12_isStory x1) (fun r_1 => (
  pbr (r_1 = 0)
    (some ((-1 : Int64), s_weight))
    (pcl (f_X12_in x2 (0 : Int32) (99 : Int32)) (fun r_4 => (
    pbr (r_4 = 0)
      (some ((-1 : Int64), s_weight))
      (pgd (pin x1 15) (
      plt ((s_weight x1.toNatClampNeg) : Int64) (fun x3_8 => (
      plt (vp_updL s_weight x1.toNatClampNeg x2.toInt64 : Nat → Int64) (fun f_9 => (
      some (x3_8, f_9))))))))))))

set_option maxRecDepth 100000 in
set_option maxHeartbeats 4000000 in
theorem ct_X12_story (l : Launch) (D : va_G) (cA : Nat → ClassId) (x1 : Int32) (x2 : Int32) (a0 : Nat) (q_weight : Nat) (q_text : Nat) (q_depths : Nat) (q_tune : Nat) (q_far : Nat) (q_books : Nat) (q_told : Nat) (q_years : Nat) (q_months : Nat) (q_ring : Nat) (q_woods : Nat) (q_ends : Nat) (q_wood : Nat) (q_sheets : Nat) (q_marsh : Nat) (q_oldest : Nat) (q_youngest : Nat) (q_knowns : Nat) (q_known : Nat) (q_chance : Nat) (q_digs : Nat) (q_draft : Nat) (q_isKept : Nat) (s_trace : Int64) (s_typed : Int32) (s_earliest : Int32) (s_latest : Int32) (s_firstYear : Int32) (s_rings : Int32) (s_weight : Nat → Int64) (o_r : Int64) (o_weight : Nat → Int64) (hf : f_X12_story x1 x2 s_weight = some (o_r, o_weight)) : CT l yX12_story wsX12_story rm_X12_story D cA [.ref a0, .int x1, .int x2] (w_X12_story a0 q_weight q_text q_depths q_tune q_far q_books q_told q_years q_months q_ring q_woods q_ends q_wood q_sheets q_marsh q_oldest q_youngest q_knowns q_known q_chance q_digs q_draft q_isKept cA s_trace s_typed s_earliest s_latest s_firstYear s_rings s_weight) (w_X12_story a0 q_weight q_text q_depths q_tune q_far q_books q_told q_years q_months q_ring q_woods q_ends q_wood q_sheets q_marsh q_oldest q_youngest q_knowns q_known q_chance q_digs q_draft q_isKept cA s_trace s_typed s_earliest s_latest s_firstYear s_rings o_weight) (some (.long o_r)) := by
  refine CT.ofW (cc := cX12_story) (maxL := 5) (ret := (some .long)) (by decide +kernel) rfl (Nat.le_of_ble_eq_true rfl) ?_
  intro p e s m below meth c A C0 hA hP hD ls hl
  have C0 : MX p s m [.ref a0, .int x1, .int x2].toArray meth c cX12_story 5 wsX12_story RX12 (some .long) D cA := C0
  have hl : lv_has ls 5 [(0, .ref a0), (1, .int x1), (2, .int x2)] := hl
  obtain ⟨hx, hb, hml, hown, hts, hr, hlocks, hX⟩ := id C0
  have hK := hX.1
  have hN := hX.2
  have hS : va_S A s.heap s.heap [] := va_S.rf
  unfold f_X12_story at hf
  refine lv_iload_n hx hb dX12_story_0 rfl (lv_at hl 1 rfl) ?_
  obtain ⟨r_1, hc_2, hf⟩ := pcl_e hf
  refine m_callS2 (As := [.int x1]) (rest := []) ⟨hx, hb, hml, hown, hts⟩ hX (ct_X12_isStory l D cA x1 r_1 hc_2) (va_cwS 1 hts gX12_story_X12_isStory rfl rfl rfl (by decide +kernel) ⟨Nat.le_of_ble_eq_true rfl, Nat.le_of_ble_eq_true rfl⟩) hP hD hS hA [] [0, 1] 2 (by decide) rfl rfl (WS' := (w_X12_story a0 q_weight q_text q_depths q_tune q_far q_books q_told q_years q_months q_ring q_woods q_ends q_wood q_sheets q_marsh q_oldest q_youngest q_knowns q_known q_chance q_digs q_draft q_isKept cA s_trace s_typed s_earliest s_latest s_firstYear s_rings s_weight)) (WR := [(a0, .inr (12, [.long s_trace, .ref q_text, .int s_typed, .ref q_depths, .ref q_tune, .ref q_far, .ref q_books, .ref q_told, .int s_earliest, .int s_latest, .ref q_years, .ref q_months, .int s_firstYear, .int s_rings, .ref q_ring, .ref q_woods, .ref q_ends, .ref q_wood, .ref q_sheets, .ref q_marsh, .ref q_oldest, .ref q_youngest, .ref q_knowns, .ref q_known, .ref q_weight, .ref q_chance, .ref q_digs, .ref q_draft, .ref q_isKept])), (q_weight, .inl (cA 2, 15, .inr (.inl s_weight)))]) rfl rfl rfl rfl (by decide) (by decide) rfl hl.1 rfl (st' := [.int r_1]) rfl (Nat.le_of_ble_eq_true rfl) ⟨Nat.zero_le _, Nat.zero_le _⟩ dX12_story_1 (fun H locs hP hD hS => ?_)
  refine lv_if_eq (tgt := 17) hx hb dX12_story_4 (by decide) (fun c_3 => ?_) (fun c_3 => ?_)
  · have hf := pbr_t c_3 hf
    refine lv_ldc2 (v := (-1 : Int64)) hx hb hown (hts _ hw_X12_story_c170) dX12_story_17 ?_
    obtain ⟨rfl, rfl⟩ := pe2 hf
    exact m_lret hx hb hr hlocks hP hS dX12_story_20
  have hf := pbr_f c_3 hf
  refine lv_iload_n hx hb dX12_story_7 rfl (lv_at hl 2 rfl) ?_
  refine lv_iconst (v := (0 : Int32)) hx hb dX12_story_8 (by decide) ?_
  refine lv_bipush (v := (99 : Int32)) hx hb dX12_story_9 (by decide) ?_
  obtain ⟨r_4, hc_5, hf⟩ := pcl_e hf
  refine m_callS2 (As := [.int x2, .int (0 : Int32), .int (99 : Int32)]) (rest := []) ⟨hx, hb, hml, hown, hts⟩ hX (ct_X12_in l D cA x2 (0 : Int32) (99 : Int32) r_4 hc_5) (va_cwS 3 hts gX12_story_X12_in rfl rfl rfl (by decide +kernel) ⟨Nat.le_of_ble_eq_true rfl, Nat.le_of_ble_eq_true rfl⟩) hP hD hS hA [] [0, 1] 2 (by decide) rfl rfl (WS' := (w_X12_story a0 q_weight q_text q_depths q_tune q_far q_books q_told q_years q_months q_ring q_woods q_ends q_wood q_sheets q_marsh q_oldest q_youngest q_knowns q_known q_chance q_digs q_draft q_isKept cA s_trace s_typed s_earliest s_latest s_firstYear s_rings s_weight)) (WR := [(a0, .inr (12, [.long s_trace, .ref q_text, .int s_typed, .ref q_depths, .ref q_tune, .ref q_far, .ref q_books, .ref q_told, .int s_earliest, .int s_latest, .ref q_years, .ref q_months, .int s_firstYear, .int s_rings, .ref q_ring, .ref q_woods, .ref q_ends, .ref q_wood, .ref q_sheets, .ref q_marsh, .ref q_oldest, .ref q_youngest, .ref q_knowns, .ref q_known, .ref q_weight, .ref q_chance, .ref q_digs, .ref q_draft, .ref q_isKept])), (q_weight, .inl (cA 2, 15, .inr (.inl s_weight)))]) rfl rfl rfl rfl (by decide) (by decide) rfl hl.1 rfl (st' := [.int r_4]) rfl (Nat.le_of_ble_eq_true rfl) ⟨Nat.zero_le _, Nat.zero_le _⟩ dX12_story_11 (fun H locs hP hD hS => ?_)
  refine lv_if_ne (tgt := 21) hx hb dX12_story_14 (by decide) (fun c_6 => ?_) (fun c_6 => ?_)
  · have hf := pbr_f c_6 hf
    refine lv_aload_n hx hb dX12_story_21 rfl (lv_at hl 0 rfl) ?_
    refine va_get (D := D) (ci := 12) (v := .ref q_weight) (C := RX12) (T := TX12) (N := 29) hx hb hts hn_X12_story_X12 hown hK hP 0 rfl rfl 24 (by decide) (hts _ hw_X12_story_f65) (fun _ h9 => h9) rfl dX12_story_22 ?_
    refine lv_iload_n hx hb dX12_story_25 rfl (lv_at hl 1 rfl) ?_
    obtain ⟨g_7, hf⟩ := pgd_e hf
    refine va_lald hx hb hK hP 1 2 rfl rfl g_7 dX12_story_26 ?_
    refine lv_topl (fun x3_8 ex3_8 => ?_)
    have hf := plt_e ex3_8 hf
    refine lv_lstore_n (lv' := [(3, .long x3_8), (0, .ref a0), (1, .int x1), (2, .int x2)]) hx hb dX12_story_27 rfl hl (by decide) rfl (fun ls hl => ?_)
    refine lv_aload_n hx hb dX12_story_28 rfl (lv_at hl 1 rfl) ?_
    refine va_get (D := D) (ci := 12) (v := .ref q_weight) (C := RX12) (T := TX12) (N := 29) hx hb hts hn_X12_story_X12 hown hK hP 0 rfl rfl 24 (by decide) (hts _ hw_X12_story_f65) (fun _ h9 => h9) rfl dX12_story_29 ?_
    refine lv_iload_n hx hb dX12_story_32 rfl (lv_at hl 2 rfl) ?_
    refine lv_iload_n hx hb dX12_story_33 rfl (lv_at hl 3 rfl) ?_
    refine lv_i2l hx hb dX12_story_34 rfl ?_
    refine va_last hx hb hK hP hD hS 1 2 rfl rfl g_7 dX12_story_35 (fun H locs hP hD hS => ?_)
    obtain ⟨f_9, ef_9⟩ : ∃ z : Nat → Int64, z = vp_updL s_weight x1.toNatClampNeg x2.toInt64 := ⟨_, rfl⟩
    have hf := plt_e ef_9 hf
    have hP : va_P D vwCl (w_X12_story a0 q_weight q_text q_depths q_tune q_far q_books q_told q_years q_months q_ring q_woods q_ends q_wood q_sheets q_marsh q_oldest q_youngest q_knowns q_known q_chance q_digs q_draft q_isKept cA s_trace s_typed s_earliest s_latest s_firstYear s_rings f_9) H := by rw [ef_9]; exact hP
    have hD : va_D A (w_X12_story a0 q_weight q_text q_depths q_tune q_far q_books q_told q_years q_months q_ring q_woods q_ends q_wood q_sheets q_marsh q_oldest q_youngest q_knowns q_known q_chance q_digs q_draft q_isKept cA s_trace s_typed s_earliest s_latest s_firstYear s_rings f_9) := by rw [ef_9]; exact hD
    refine lv_lload_n hx hb dX12_story_36 rfl (lv_at hl 0 rfl) ?_
    obtain ⟨rfl, rfl⟩ := pe2 hf
    exact m_lret hx hb hr hlocks hP hS dX12_story_37
  have hf := pbr_t c_6 hf
  refine lv_ldc2 (v := (-1 : Int64)) hx hb hown (hts _ hw_X12_story_c170) dX12_story_17 ?_
  obtain ⟨rfl, rfl⟩ := pe2 hf
  exact m_lret hx hb hr hlocks hP hS dX12_story_20

/-! ===== OrphanWaveModel.chance(III)I ===== -/
abbrev rm_X12_chance : Room := { frames := 2, cells := 0, slots := 0, locals := 42 }
abbrev w_X12_chance (a0 : Nat) (q_chance : Nat) (q_text : Nat) (q_depths : Nat) (q_tune : Nat) (q_far : Nat) (q_books : Nat) (q_told : Nat) (q_years : Nat) (q_months : Nat) (q_ring : Nat) (q_woods : Nat) (q_ends : Nat) (q_wood : Nat) (q_sheets : Nat) (q_marsh : Nat) (q_oldest : Nat) (q_youngest : Nat) (q_knowns : Nat) (q_known : Nat) (q_weight : Nat) (q_digs : Nat) (q_draft : Nat) (q_isKept : Nat) (cA : Nat → ClassId) (s_trace : Int64) (s_typed : Int32) (s_earliest : Int32) (s_latest : Int32) (s_firstYear : Int32) (s_rings : Int32) (s_chance : Nat → Int32) : va_W := [(a0, .inr (12, [.long s_trace, .ref q_text, .int s_typed, .ref q_depths, .ref q_tune, .ref q_far, .ref q_books, .ref q_told, .int s_earliest, .int s_latest, .ref q_years, .ref q_months, .int s_firstYear, .int s_rings, .ref q_ring, .ref q_woods, .ref q_ends, .ref q_wood, .ref q_sheets, .ref q_marsh, .ref q_oldest, .ref q_youngest, .ref q_knowns, .ref q_known, .ref q_weight, .ref q_chance, .ref q_digs, .ref q_draft, .ref q_isKept])), (q_chance, .inl (cA 1, 30, .inl s_chance))]
theorem hn_X12_chance_X12 : ∀ w ∈ u_ws RX12 TX12 29, w ∈ wsX12_chance := by decide +kernel
theorem hw_X12_chance_f69 : Cond.fieldLink RX12 69 "OrphanWaveModel" "chance" "[I" ∈ wsX12_chance := by decide +kernel

def f_X12_chance (x1 : Int32) (x2 : Int32) (x3 : Int32) (s_chance : Nat → Int32) : Option ((Int32) × (Nat → Int32)) :=
  pcl (f_X12_isStory x1) (fun r_1 => (
  pbr (r_1 = 0)
    (some ((-1 : Int32), s_chance))
    (pcl (f_X12_in x2 (0 : Int32) (5 : Int32)) (fun r_4 => (
    pbr (r_4 = 0)
      (some ((-1 : Int32), s_chance))
      (pcl (f_X12_in x3 (0 : Int32) (10 : Int32)) (fun r_7 => (
      pbr (r_7 = 0)
        (some ((-1 : Int32), s_chance))
        (pgd (pin (((6 : Int32) * x1) + x2) 30) (
        plt ((s_chance (((6 : Int32) * x1) + x2).toNatClampNeg) : Int32) (fun x4_11 => (
        plt (upd s_chance (((6 : Int32) * x1) + x2).toNatClampNeg x3 : Nat → Int32) (fun f_12 => (
        some (x4_11, f_12)))))))))))))))

set_option maxRecDepth 100000 in
set_option maxHeartbeats 4000000 in
theorem ct_X12_chance (l : Launch) (D : va_G) (cA : Nat → ClassId) (x1 : Int32) (x2 : Int32) (x3 : Int32) (a0 : Nat) (q_chance : Nat) (q_text : Nat) (q_depths : Nat) (q_tune : Nat) (q_far : Nat) (q_books : Nat) (q_told : Nat) (q_years : Nat) (q_months : Nat) (q_ring : Nat) (q_woods : Nat) (q_ends : Nat) (q_wood : Nat) (q_sheets : Nat) (q_marsh : Nat) (q_oldest : Nat) (q_youngest : Nat) (q_knowns : Nat) (q_known : Nat) (q_weight : Nat) (q_digs : Nat) (q_draft : Nat) (q_isKept : Nat) (s_trace : Int64) (s_typed : Int32) (s_earliest : Int32) (s_latest : Int32) (s_firstYear : Int32) (s_rings : Int32) (s_chance : Nat → Int32) (o_r : Int32) (o_chance : Nat → Int32) (hf : f_X12_chance x1 x2 x3 s_chance = some (o_r, o_chance)) : CT l yX12_chance wsX12_chance rm_X12_chance D cA [.ref a0, .int x1, .int x2, .int x3] (w_X12_chance a0 q_chance q_text q_depths q_tune q_far q_books q_told q_years q_months q_ring q_woods q_ends q_wood q_sheets q_marsh q_oldest q_youngest q_knowns q_known q_weight q_digs q_draft q_isKept cA s_trace s_typed s_earliest s_latest s_firstYear s_rings s_chance) (w_X12_chance a0 q_chance q_text q_depths q_tune q_far q_books q_told q_years q_months q_ring q_woods q_ends q_wood q_sheets q_marsh q_oldest q_youngest q_knowns q_known q_weight q_digs q_draft q_isKept cA s_trace s_typed s_earliest s_latest s_firstYear s_rings o_chance) (some (.int o_r)) := by
  refine CT.ofW (cc := cX12_chance) (maxL := 5) (ret := (some .int)) (by decide +kernel) rfl (Nat.le_of_ble_eq_true rfl) ?_
  intro p e s m below meth c A C0 hA hP hD ls hl
  have C0 : MX p s m [.ref a0, .int x1, .int x2, .int x3].toArray meth c cX12_chance 5 wsX12_chance RX12 (some .int) D cA := C0
  have hl : lv_has ls 5 [(0, .ref a0), (1, .int x1), (2, .int x2), (3, .int x3)] := hl
  obtain ⟨hx, hb, hml, hown, hts, hr, hlocks, hX⟩ := id C0
  have hK := hX.1
  have hN := hX.2
  have hS : va_S A s.heap s.heap [] := va_S.rf
  unfold f_X12_chance at hf
  refine lv_iload_n hx hb dX12_chance_0 rfl (lv_at hl 1 rfl) ?_
  obtain ⟨r_1, hc_2, hf⟩ := pcl_e hf
  refine m_callS2 (As := [.int x1]) (rest := []) ⟨hx, hb, hml, hown, hts⟩ hX (ct_X12_isStory l D cA x1 r_1 hc_2) (va_cwS 1 hts gX12_chance_X12_isStory rfl rfl rfl (by decide +kernel) ⟨Nat.le_of_ble_eq_true rfl, Nat.le_of_ble_eq_true rfl⟩) hP hD hS hA [] [0, 1] 2 (by decide) rfl rfl (WS' := (w_X12_chance a0 q_chance q_text q_depths q_tune q_far q_books q_told q_years q_months q_ring q_woods q_ends q_wood q_sheets q_marsh q_oldest q_youngest q_knowns q_known q_weight q_digs q_draft q_isKept cA s_trace s_typed s_earliest s_latest s_firstYear s_rings s_chance)) (WR := [(a0, .inr (12, [.long s_trace, .ref q_text, .int s_typed, .ref q_depths, .ref q_tune, .ref q_far, .ref q_books, .ref q_told, .int s_earliest, .int s_latest, .ref q_years, .ref q_months, .int s_firstYear, .int s_rings, .ref q_ring, .ref q_woods, .ref q_ends, .ref q_wood, .ref q_sheets, .ref q_marsh, .ref q_oldest, .ref q_youngest, .ref q_knowns, .ref q_known, .ref q_weight, .ref q_chance, .ref q_digs, .ref q_draft, .ref q_isKept])), (q_chance, .inl (cA 1, 30, .inl s_chance))]) rfl rfl rfl rfl (by decide) (by decide) rfl hl.1 rfl (st' := [.int r_1]) rfl (Nat.le_of_ble_eq_true rfl) ⟨Nat.zero_le _, Nat.zero_le _⟩ dX12_chance_1 (fun H locs hP hD hS => ?_)
  refine lv_if_eq (tgt := 26) hx hb dX12_chance_4 (by decide) (fun c_3 => ?_) (fun c_3 => ?_)
  · have hf := pbr_t c_3 hf
    refine lv_iconst (v := (-1 : Int32)) hx hb dX12_chance_26 (by decide) ?_
    obtain ⟨rfl, rfl⟩ := pe2 hf
    exact m_iret hx hb hr hlocks hP hS dX12_chance_27
  have hf := pbr_f c_3 hf
  refine lv_iload_n hx hb dX12_chance_7 rfl (lv_at hl 2 rfl) ?_
  refine lv_iconst (v := (0 : Int32)) hx hb dX12_chance_8 (by decide) ?_
  refine lv_iconst (v := (5 : Int32)) hx hb dX12_chance_9 (by decide) ?_
  obtain ⟨r_4, hc_5, hf⟩ := pcl_e hf
  refine m_callS2 (As := [.int x2, .int (0 : Int32), .int (5 : Int32)]) (rest := []) ⟨hx, hb, hml, hown, hts⟩ hX (ct_X12_in l D cA x2 (0 : Int32) (5 : Int32) r_4 hc_5) (va_cwS 3 hts gX12_chance_X12_in rfl rfl rfl (by decide +kernel) ⟨Nat.le_of_ble_eq_true rfl, Nat.le_of_ble_eq_true rfl⟩) hP hD hS hA [] [0, 1] 2 (by decide) rfl rfl (WS' := (w_X12_chance a0 q_chance q_text q_depths q_tune q_far q_books q_told q_years q_months q_ring q_woods q_ends q_wood q_sheets q_marsh q_oldest q_youngest q_knowns q_known q_weight q_digs q_draft q_isKept cA s_trace s_typed s_earliest s_latest s_firstYear s_rings s_chance)) (WR := [(a0, .inr (12, [.long s_trace, .ref q_text, .int s_typed, .ref q_depths, .ref q_tune, .ref q_far, .ref q_books, .ref q_told, .int s_earliest, .int s_latest, .ref q_years, .ref q_months, .int s_firstYear, .int s_rings, .ref q_ring, .ref q_woods, .ref q_ends, .ref q_wood, .ref q_sheets, .ref q_marsh, .ref q_oldest, .ref q_youngest, .ref q_knowns, .ref q_known, .ref q_weight, .ref q_chance, .ref q_digs, .ref q_draft, .ref q_isKept])), (q_chance, .inl (cA 1, 30, .inl s_chance))]) rfl rfl rfl rfl (by decide) (by decide) rfl hl.1 rfl (st' := [.int r_4]) rfl (Nat.le_of_ble_eq_true rfl) ⟨Nat.zero_le _, Nat.zero_le _⟩ dX12_chance_10 (fun H locs hP hD hS => ?_)
  refine lv_if_eq (tgt := 26) hx hb dX12_chance_13 (by decide) (fun c_6 => ?_) (fun c_6 => ?_)
  · have hf := pbr_t c_6 hf
    refine lv_iconst (v := (-1 : Int32)) hx hb dX12_chance_26 (by decide) ?_
    obtain ⟨rfl, rfl⟩ := pe2 hf
    exact m_iret hx hb hr hlocks hP hS dX12_chance_27
  have hf := pbr_f c_6 hf
  refine lv_iload_n hx hb dX12_chance_16 rfl (lv_at hl 3 rfl) ?_
  refine lv_iconst (v := (0 : Int32)) hx hb dX12_chance_17 (by decide) ?_
  refine lv_bipush (v := (10 : Int32)) hx hb dX12_chance_18 (by decide) ?_
  obtain ⟨r_7, hc_8, hf⟩ := pcl_e hf
  refine m_callS2 (As := [.int x3, .int (0 : Int32), .int (10 : Int32)]) (rest := []) ⟨hx, hb, hml, hown, hts⟩ hX (ct_X12_in l D cA x3 (0 : Int32) (10 : Int32) r_7 hc_8) (va_cwS 3 hts gX12_chance_X12_in rfl rfl rfl (by decide +kernel) ⟨Nat.le_of_ble_eq_true rfl, Nat.le_of_ble_eq_true rfl⟩) hP hD hS hA [] [0, 1] 2 (by decide) rfl rfl (WS' := (w_X12_chance a0 q_chance q_text q_depths q_tune q_far q_books q_told q_years q_months q_ring q_woods q_ends q_wood q_sheets q_marsh q_oldest q_youngest q_knowns q_known q_weight q_digs q_draft q_isKept cA s_trace s_typed s_earliest s_latest s_firstYear s_rings s_chance)) (WR := [(a0, .inr (12, [.long s_trace, .ref q_text, .int s_typed, .ref q_depths, .ref q_tune, .ref q_far, .ref q_books, .ref q_told, .int s_earliest, .int s_latest, .ref q_years, .ref q_months, .int s_firstYear, .int s_rings, .ref q_ring, .ref q_woods, .ref q_ends, .ref q_wood, .ref q_sheets, .ref q_marsh, .ref q_oldest, .ref q_youngest, .ref q_knowns, .ref q_known, .ref q_weight, .ref q_chance, .ref q_digs, .ref q_draft, .ref q_isKept])), (q_chance, .inl (cA 1, 30, .inl s_chance))]) rfl rfl rfl rfl (by decide) (by decide) rfl hl.1 rfl (st' := [.int r_7]) rfl (Nat.le_of_ble_eq_true rfl) ⟨Nat.zero_le _, Nat.zero_le _⟩ dX12_chance_20 (fun H locs hP hD hS => ?_)
  refine lv_if_ne (tgt := 28) hx hb dX12_chance_23 (by decide) (fun c_9 => ?_) (fun c_9 => ?_)
  · have hf := pbr_f c_9 hf
    refine lv_aload_n hx hb dX12_chance_28 rfl (lv_at hl 0 rfl) ?_
    refine va_get (D := D) (ci := 12) (v := .ref q_chance) (C := RX12) (T := TX12) (N := 29) hx hb hts hn_X12_chance_X12 hown hK hP 0 rfl rfl 25 (by decide) (hts _ hw_X12_chance_f69) (fun _ h9 => h9) rfl dX12_chance_29 ?_
    refine lv_bipush (v := (6 : Int32)) hx hb dX12_chance_32 (by decide) ?_
    refine lv_iload_n hx hb dX12_chance_34 rfl (lv_at hl 1 rfl) ?_
    refine lv_imul hx hb dX12_chance_35 ?_
    refine lv_iload_n hx hb dX12_chance_36 rfl (lv_at hl 2 rfl) ?_
    refine lv_iadd hx hb dX12_chance_37 ?_
    obtain ⟨g_10, hf⟩ := pgd_e hf
    refine va_iald hx hb hK hP 1 1 rfl rfl g_10 dX12_chance_38 ?_
    refine lv_topi (fun x4_11 ex4_11 => ?_)
    have hf := plt_e ex4_11 hf
    refine lv_istore (lv' := [(4, .int x4_11), (0, .ref a0), (1, .int x1), (2, .int x2), (3, .int x3)]) hx hb dX12_chance_39 hl (by decide) rfl (fun ls hl => ?_)
    refine lv_aload_n hx hb dX12_chance_41 rfl (lv_at hl 1 rfl) ?_
    refine va_get (D := D) (ci := 12) (v := .ref q_chance) (C := RX12) (T := TX12) (N := 29) hx hb hts hn_X12_chance_X12 hown hK hP 0 rfl rfl 25 (by decide) (hts _ hw_X12_chance_f69) (fun _ h9 => h9) rfl dX12_chance_42 ?_
    refine lv_bipush (v := (6 : Int32)) hx hb dX12_chance_45 (by decide) ?_
    refine lv_iload_n hx hb dX12_chance_47 rfl (lv_at hl 2 rfl) ?_
    refine lv_imul hx hb dX12_chance_48 ?_
    refine lv_iload_n hx hb dX12_chance_49 rfl (lv_at hl 3 rfl) ?_
    refine lv_iadd hx hb dX12_chance_50 ?_
    refine lv_iload_n hx hb dX12_chance_51 rfl (lv_at hl 4 rfl) ?_
    refine va_iast hx hb hK hP hD hS 1 1 rfl rfl g_10 dX12_chance_52 (fun H locs hP hD hS => ?_)
    obtain ⟨f_12, ef_12⟩ : ∃ z : Nat → Int32, z = upd s_chance (((6 : Int32) * x1) + x2).toNatClampNeg x3 := ⟨_, rfl⟩
    have hf := plt_e ef_12 hf
    have hP : va_P D vwCl (w_X12_chance a0 q_chance q_text q_depths q_tune q_far q_books q_told q_years q_months q_ring q_woods q_ends q_wood q_sheets q_marsh q_oldest q_youngest q_knowns q_known q_weight q_digs q_draft q_isKept cA s_trace s_typed s_earliest s_latest s_firstYear s_rings f_12) H := by rw [ef_12]; exact hP
    have hD : va_D A (w_X12_chance a0 q_chance q_text q_depths q_tune q_far q_books q_told q_years q_months q_ring q_woods q_ends q_wood q_sheets q_marsh q_oldest q_youngest q_knowns q_known q_weight q_digs q_draft q_isKept cA s_trace s_typed s_earliest s_latest s_firstYear s_rings f_12) := by rw [ef_12]; exact hD
    refine lv_iload hx hb dX12_chance_53 (lv_at hl 0 rfl) ?_
    obtain ⟨rfl, rfl⟩ := pe2 hf
    exact m_iret hx hb hr hlocks hP hS dX12_chance_55
  have hf := pbr_t c_9 hf
  refine lv_iconst (v := (-1 : Int32)) hx hb dX12_chance_26 (by decide) ?_
  obtain ⟨rfl, rfl⟩ := pe2 hf
  exact m_iret hx hb hr hlocks hP hS dX12_chance_27

/-! ===== OrphanWaveModel.dug(II)I ===== -/
abbrev rm_X12_dug : Room := { frames := 1, cells := 0, slots := 0, locals := 29 }
abbrev w_X12_dug (a0 : Nat) (q_digs : Nat) (q_chance : Nat) (q_weight : Nat) (q_draft : Nat) (q_text : Nat) (q_depths : Nat) (q_tune : Nat) (q_far : Nat) (q_books : Nat) (q_told : Nat) (q_years : Nat) (q_months : Nat) (q_ring : Nat) (q_woods : Nat) (q_ends : Nat) (q_wood : Nat) (q_sheets : Nat) (q_marsh : Nat) (q_oldest : Nat) (q_youngest : Nat) (q_knowns : Nat) (q_known : Nat) (q_isKept : Nat) (cA : Nat → ClassId) (s_trace : Int64) (s_typed : Int32) (s_earliest : Int32) (s_latest : Int32) (s_firstYear : Int32) (s_rings : Int32) (s_digs : Nat → Int32) (s_chance : Nat → Int32) (s_weight : Nat → Int64) (s_draft : Nat → Int64) : va_W := [(a0, .inr (12, [.long s_trace, .ref q_text, .int s_typed, .ref q_depths, .ref q_tune, .ref q_far, .ref q_books, .ref q_told, .int s_earliest, .int s_latest, .ref q_years, .ref q_months, .int s_firstYear, .int s_rings, .ref q_ring, .ref q_woods, .ref q_ends, .ref q_wood, .ref q_sheets, .ref q_marsh, .ref q_oldest, .ref q_youngest, .ref q_knowns, .ref q_known, .ref q_weight, .ref q_chance, .ref q_digs, .ref q_draft, .ref q_isKept])), (q_digs, .inl (cA 1, 3, .inl s_digs)), (q_chance, .inl (cA 1, 30, .inl s_chance)), (q_weight, .inl (cA 2, 15, .inr (.inl s_weight))), (q_draft, .inl (cA 2, 5, .inr (.inl s_draft)))]
theorem hn_X12_dug_X12 : ∀ w ∈ u_ws RX12 TX12 29, w ∈ wsX12_dug := by decide +kernel
theorem hw_X12_dug_f72 : Cond.fieldLink RX12 72 "OrphanWaveModel" "digs" "[I" ∈ wsX12_dug := by decide +kernel
theorem hw_X12_dug_f69 : Cond.fieldLink RX12 69 "OrphanWaveModel" "chance" "[I" ∈ wsX12_dug := by decide +kernel
theorem hw_X12_dug_f75 : Cond.fieldLink RX12 75 "OrphanWaveModel" "draft" "[J" ∈ wsX12_dug := by decide +kernel
theorem hw_X12_dug_f65 : Cond.fieldLink RX12 65 "OrphanWaveModel" "weight" "[J" ∈ wsX12_dug := by decide +kernel
theorem hw_X12_dug_c172 : Cond.constantLong RX12 172 (1000000000000) ∈ wsX12_dug := by decide +kernel

def f_X12_dug_157 (s_chance : Nat → Int32) (x1 : Int32) (x2 : Int32) : Nat → (Int64) → (Int32) → (Nat → Int32) → (Nat → Int64) → (Nat → Int64) → Option ((Int32) × (Nat → Int32) × (Nat → Int64) × (Nat → Int64))
  | 0, _, _, _, _, _ => none
  | k + 1, x3, x5, s_digs, s_weight, s_draft =>
    pbr ((5 : Int32) ≤ x5)
      (plt (upd s_digs (0 : Int32).toNatClampNeg ((s_digs (0 : Int32).toNatClampNeg) ||| ((1 : Int32) <<< (x1 &&& 31))) : Nat → Int32) (fun f_2 => (
      pcl (f_X12_bitsIn (f_2 (0 : Int32).toNatClampNeg)) (fun r_3 => (
      some (r_3, f_2, s_weight, s_draft))))))
      (pgd (pin x5 5) (
      pgd (¬ x3 = 0) (
      pgd (pin x5 15) (
      plt (vp_updL s_weight x5.toNatClampNeg ((s_draft x5.toNatClampNeg) / x3) : Nat → Int64) (fun f_8 => (
      plt (x5 + (1 : Int32) : Int32) (fun x5_9 => (
      (f_X12_dug_157 s_chance x1 x2 k) x3 x5_9 s_digs f_8 s_draft))))))))

set_option maxRecDepth 100000 in
set_option maxHeartbeats 4000000 in
theorem k_X12_dug_157 {p : Program} {l : Launch} {e : Env} {s : State} {m : MethodId} {args : Array Value} {below : List Frame} {meth : Method} {c : Code} {A : Nat → Prop} {D : va_G} {cA : Nat → ClassId} (C0 : MX p s m args meth c cX12_dug 7 wsX12_dug RX12 (some .int) D cA) (hA : ∀ q, s.heap.size ≤ q → A q) {a0 : Nat} {q_digs : Nat} {q_chance : Nat} {q_weight : Nat} {q_draft : Nat} {q_text : Nat} {q_depths : Nat} {q_tune : Nat} {q_far : Nat} {q_books : Nat} {q_told : Nat} {q_years : Nat} {q_months : Nat} {q_ring : Nat} {q_woods : Nat} {q_ends : Nat} {q_wood : Nat} {q_sheets : Nat} {q_marsh : Nat} {q_oldest : Nat} {q_youngest : Nat} {q_knowns : Nat} {q_known : Nat} {q_isKept : Nat} {s_trace : Int64} {s_typed : Int32} {s_earliest : Int32} {s_latest : Int32} {s_firstYear : Int32} {s_rings : Int32} {s_chance : Nat → Int32} {x1 : Int32} {x2 : Int32} {o_r : Int32} {o_digs : Nat → Int32} {o_weight : Nat → Int64} {o_draft : Nat → Int64} : ∀ (k : Nat) (x3 : Int64) (x5 : Int32) (s_digs : Nat → Int32) (s_weight : Nat → Int64) (s_draft : Nat → Int64), f_X12_dug_157 s_chance x1 x2 k x3 x5 s_digs s_weight s_draft = some (o_r, o_digs, o_weight, o_draft) → ∀ (H : Heap) (locs : List Loc), va_P D vwCl (w_X12_dug a0 q_digs q_chance q_weight q_draft q_text q_depths q_tune q_far q_books q_told q_years q_months q_ring q_woods q_ends q_wood q_sheets q_marsh q_oldest q_youngest q_knowns q_known q_isKept cA s_trace s_typed s_earliest s_latest s_firstYear s_rings s_digs s_chance s_weight s_draft) H → va_D A (w_X12_dug a0 q_digs q_chance q_weight q_draft q_text q_depths q_tune q_far q_books q_told q_years q_months q_ring q_woods q_ends q_wood q_sheets q_marsh q_oldest q_youngest q_knowns q_known q_isKept cA s_trace s_typed s_earliest s_latest s_firstYear s_rings s_digs s_chance s_weight s_draft) → va_S A s.heap H locs → ∀ ls : Array Slot, lv_has ls 7 [(0, .ref a0), (1, .int x1), (3, .long x3), (5, .int x5)] → W p l e rm_X12_dug s m args below meth c H locs 0 0 (MQ below (CQ D (some (.int o_r)) (w_X12_dug a0 q_digs q_chance q_weight q_draft q_text q_depths q_tune q_far q_books q_told q_years q_months q_ring q_woods q_ends q_wood q_sheets q_marsh q_oldest q_youngest q_knowns q_known q_isKept cA s_trace s_typed s_earliest s_latest s_firstYear s_rings o_digs s_chance o_weight o_draft) A) args s 0 0 A) (F0 m 157 ls []) := by
  obtain ⟨hx, hb, hml, hown, hts, hr, hlocks, hX⟩ := C0
  have hK := hX.1
  have hN := hX.2
  intro k
  induction k with
  | zero =>
    intro x3 x5 s_digs s_weight s_draft hf
    cases hf
  | succ k ih =>
    intro x3 x5 s_digs s_weight s_draft hf H locs hP hD hS ls hl
    rw [f_X12_dug_157] at hf
    refine lv_iload hx hb dX12_dug_157 (lv_at hl 3 rfl) ?_
    refine lv_iconst (v := (5 : Int32)) hx hb dX12_dug_159 (by decide) ?_
    refine lv_icmp_ge (tgt := 185) hx hb dX12_dug_160 (by decide) (fun c_1 => ?_) (fun c_1 => ?_)
    · have hf := pbr_t c_1 hf
      refine lv_aload_n hx hb dX12_dug_185 rfl (lv_at hl 0 rfl) ?_
      refine va_get (D := D) (ci := 12) (v := .ref q_digs) (C := RX12) (T := TX12) (N := 29) hx hb hts hn_X12_dug_X12 hown hK hP 0 rfl rfl 26 (by decide) (hts _ hw_X12_dug_f72) (fun _ h9 => h9) rfl dX12_dug_186 ?_
      refine lv_iconst (v := (0 : Int32)) hx hb dX12_dug_189 (by decide) ?_
      refine lv_dup2_11 hx hb dX12_dug_190 rfl rfl ?_
      refine va_iald hx hb hK hP 1 1 rfl rfl (show pin (0 : Int32) 3 by decide +kernel) dX12_dug_191 ?_
      refine lv_iconst (v := (1 : Int32)) hx hb dX12_dug_192 (by decide) ?_
      refine lv_iload_n hx hb dX12_dug_193 rfl (lv_at hl 1 rfl) ?_
      refine lv_ishl hx hb dX12_dug_194 ?_
      refine lv_ior hx hb dX12_dug_195 ?_
      refine va_iast hx hb hK hP hD hS 1 1 rfl rfl (show pin (0 : Int32) 3 by decide +kernel) dX12_dug_196 (fun H locs hP hD hS => ?_)
      obtain ⟨f_2, ef_2⟩ : ∃ z : Nat → Int32, z = upd s_digs (0 : Int32).toNatClampNeg ((s_digs (0 : Int32).toNatClampNeg) ||| ((1 : Int32) <<< (x1 &&& 31))) := ⟨_, rfl⟩
      have hf := plt_e ef_2 hf
      have hP : va_P D vwCl (w_X12_dug a0 q_digs q_chance q_weight q_draft q_text q_depths q_tune q_far q_books q_told q_years q_months q_ring q_woods q_ends q_wood q_sheets q_marsh q_oldest q_youngest q_knowns q_known q_isKept cA s_trace s_typed s_earliest s_latest s_firstYear s_rings f_2 s_chance s_weight s_draft) H := by rw [ef_2]; exact hP
      have hD : va_D A (w_X12_dug a0 q_digs q_chance q_weight q_draft q_text q_depths q_tune q_far q_books q_told q_years q_months q_ring q_woods q_ends q_wood q_sheets q_marsh q_oldest q_youngest q_knowns q_known q_isKept cA s_trace s_typed s_earliest s_latest s_firstYear s_rings f_2 s_chance s_weight s_draft) := by rw [ef_2]; exact hD
      refine lv_aload_n hx hb dX12_dug_197 rfl (lv_at hl 0 rfl) ?_
      refine va_get (D := D) (ci := 12) (v := .ref q_digs) (C := RX12) (T := TX12) (N := 29) hx hb hts hn_X12_dug_X12 hown hK hP 0 rfl rfl 26 (by decide) (hts _ hw_X12_dug_f72) (fun _ h9 => h9) rfl dX12_dug_198 ?_
      refine lv_iconst (v := (0 : Int32)) hx hb dX12_dug_201 (by decide) ?_
      refine va_iald hx hb hK hP 1 1 rfl rfl (show pin (0 : Int32) 3 by decide +kernel) dX12_dug_202 ?_
      obtain ⟨r_3, hc_4, hf⟩ := pcl_e hf
      refine m_callS2 (As := [.int (f_2 (0 : Int32).toNatClampNeg)]) (rest := []) ⟨hx, hb, hml, hown, hts⟩ hX (ct_X12_bitsIn l D cA (f_2 (0 : Int32).toNatClampNeg) r_3 hc_4) (va_cwS 1 hts gX12_dug_X12_bitsIn rfl rfl rfl (by decide +kernel) ⟨Nat.le_of_ble_eq_true rfl, Nat.le_of_ble_eq_true rfl⟩) hP hD hS hA [] [0, 1, 2, 3, 4] 5 (by decide) rfl rfl (WS' := (w_X12_dug a0 q_digs q_chance q_weight q_draft q_text q_depths q_tune q_far q_books q_told q_years q_months q_ring q_woods q_ends q_wood q_sheets q_marsh q_oldest q_youngest q_knowns q_known q_isKept cA s_trace s_typed s_earliest s_latest s_firstYear s_rings f_2 s_chance s_weight s_draft)) (WR := [(a0, .inr (12, [.long s_trace, .ref q_text, .int s_typed, .ref q_depths, .ref q_tune, .ref q_far, .ref q_books, .ref q_told, .int s_earliest, .int s_latest, .ref q_years, .ref q_months, .int s_firstYear, .int s_rings, .ref q_ring, .ref q_woods, .ref q_ends, .ref q_wood, .ref q_sheets, .ref q_marsh, .ref q_oldest, .ref q_youngest, .ref q_knowns, .ref q_known, .ref q_weight, .ref q_chance, .ref q_digs, .ref q_draft, .ref q_isKept])), (q_digs, .inl (cA 1, 3, .inl f_2)), (q_chance, .inl (cA 1, 30, .inl s_chance)), (q_weight, .inl (cA 2, 15, .inr (.inl s_weight))), (q_draft, .inl (cA 2, 5, .inr (.inl s_draft)))]) rfl rfl rfl rfl (by decide) (by decide) rfl hl.1 rfl (st' := [.int r_3]) rfl (Nat.le_of_ble_eq_true rfl) ⟨Nat.zero_le _, Nat.zero_le _⟩ dX12_dug_203 (fun H locs hP hD hS => ?_)
      obtain ⟨rfl, rfl, rfl, rfl⟩ := pe4 hf
      exact m_iret hx hb hr hlocks hP hS dX12_dug_206
    have hf := pbr_f c_1 hf
    refine lv_aload_n hx hb dX12_dug_163 rfl (lv_at hl 0 rfl) ?_
    refine va_get (D := D) (ci := 12) (v := .ref q_weight) (C := RX12) (T := TX12) (N := 29) hx hb hts hn_X12_dug_X12 hown hK hP 0 rfl rfl 24 (by decide) (hts _ hw_X12_dug_f65) (fun _ h9 => h9) rfl dX12_dug_164 ?_
    refine lv_iload hx hb dX12_dug_167 (lv_at hl 3 rfl) ?_
    refine lv_aload_n hx hb dX12_dug_169 rfl (lv_at hl 0 rfl) ?_
    refine va_get (D := D) (ci := 12) (v := .ref q_draft) (C := RX12) (T := TX12) (N := 29) hx hb hts hn_X12_dug_X12 hown hK hP 0 rfl rfl 27 (by decide) (hts _ hw_X12_dug_f75) (fun _ h9 => h9) rfl dX12_dug_170 ?_
    refine lv_iload hx hb dX12_dug_173 (lv_at hl 3 rfl) ?_
    obtain ⟨g_5, hf⟩ := pgd_e hf
    refine va_lald hx hb hK hP 4 2 rfl rfl g_5 dX12_dug_175 ?_
    refine lv_lload_n hx hb dX12_dug_176 rfl (lv_at hl 2 rfl) ?_
    obtain ⟨g_6, hf⟩ := pgd_e hf
    refine lv_ldiv hx hb dX12_dug_177 g_6 ?_
    obtain ⟨g_7, hf⟩ := pgd_e hf
    refine va_last hx hb hK hP hD hS 3 2 rfl rfl g_7 dX12_dug_178 (fun H locs hP hD hS => ?_)
    obtain ⟨f_8, ef_8⟩ : ∃ z : Nat → Int64, z = vp_updL s_weight x5.toNatClampNeg ((s_draft x5.toNatClampNeg) / x3) := ⟨_, rfl⟩
    have hf := plt_e ef_8 hf
    have hP : va_P D vwCl (w_X12_dug a0 q_digs q_chance q_weight q_draft q_text q_depths q_tune q_far q_books q_told q_years q_months q_ring q_woods q_ends q_wood q_sheets q_marsh q_oldest q_youngest q_knowns q_known q_isKept cA s_trace s_typed s_earliest s_latest s_firstYear s_rings s_digs s_chance f_8 s_draft) H := by rw [ef_8]; exact hP
    have hD : va_D A (w_X12_dug a0 q_digs q_chance q_weight q_draft q_text q_depths q_tune q_far q_books q_told q_years q_months q_ring q_woods q_ends q_wood q_sheets q_marsh q_oldest q_youngest q_knowns q_known q_isKept cA s_trace s_typed s_earliest s_latest s_firstYear s_rings s_digs s_chance f_8 s_draft) := by rw [ef_8]; exact hD
    obtain ⟨x5_9, ex5_9⟩ : ∃ z : Int32, z = x5 + (1 : Int32) := ⟨_, rfl⟩
    have hf := plt_e ex5_9 hf
    refine lv_iinc (v := x5_9) (lv' := [(5, .int x5_9), (0, .ref a0), (1, .int x1), (3, .long x3)]) hx hb dX12_dug_179 hl (k := 3) rfl (by rw [ex5_9]; rfl) (by decide) rfl (fun ls hl => ?_)
    refine lv_goto (tgt := 157) hx hb dX12_dug_182 (by decide) ?_
    exact ih x3 x5_9 s_digs f_8 s_draft hf _ _ hP hD hS ls (lv_sub hl [1, 2, 3, 0] rfl)

def f_X12_dug_123 (s_chance : Nat → Int32) (x1 : Int32) (x2 : Int32) : Nat → (Int64) → (Int32) → (Nat → Int32) → (Nat → Int64) → (Nat → Int64) → Option ((Int32) × (Nat → Int32) × (Nat → Int64) × (Nat → Int64))
  | 0, _, _, _, _, _ => none
  | k + 1, x3, x5, s_digs, s_weight, s_draft =>
    pbr ((5 : Int32) ≤ x5)
      (f_X12_dug_157 s_chance x1 x2 FU x3 (0 : Int32) s_digs s_weight s_draft)
      (pgd (pin x5 5) (
      pgd (¬ x3 = 0) (
      pbr ((lg_cmp ((s_draft x5.toNatClampNeg) / x3) (1000000000000 : Int64)) ≤ 0)
        (plt (x5 + (1 : Int32) : Int32) (fun x5_5 => (
        (f_X12_dug_123 s_chance x1 x2 k) x3 x5_5 s_digs s_weight s_draft)))
        (some ((-3 : Int32), s_digs, s_weight, s_draft)))))

set_option maxRecDepth 100000 in
set_option maxHeartbeats 4000000 in
theorem k_X12_dug_123 {p : Program} {l : Launch} {e : Env} {s : State} {m : MethodId} {args : Array Value} {below : List Frame} {meth : Method} {c : Code} {A : Nat → Prop} {D : va_G} {cA : Nat → ClassId} (C0 : MX p s m args meth c cX12_dug 7 wsX12_dug RX12 (some .int) D cA) (hA : ∀ q, s.heap.size ≤ q → A q) {a0 : Nat} {q_digs : Nat} {q_chance : Nat} {q_weight : Nat} {q_draft : Nat} {q_text : Nat} {q_depths : Nat} {q_tune : Nat} {q_far : Nat} {q_books : Nat} {q_told : Nat} {q_years : Nat} {q_months : Nat} {q_ring : Nat} {q_woods : Nat} {q_ends : Nat} {q_wood : Nat} {q_sheets : Nat} {q_marsh : Nat} {q_oldest : Nat} {q_youngest : Nat} {q_knowns : Nat} {q_known : Nat} {q_isKept : Nat} {s_trace : Int64} {s_typed : Int32} {s_earliest : Int32} {s_latest : Int32} {s_firstYear : Int32} {s_rings : Int32} {s_chance : Nat → Int32} {x1 : Int32} {x2 : Int32} {o_r : Int32} {o_digs : Nat → Int32} {o_weight : Nat → Int64} {o_draft : Nat → Int64} : ∀ (k : Nat) (x3 : Int64) (x5 : Int32) (s_digs : Nat → Int32) (s_weight : Nat → Int64) (s_draft : Nat → Int64), f_X12_dug_123 s_chance x1 x2 k x3 x5 s_digs s_weight s_draft = some (o_r, o_digs, o_weight, o_draft) → ∀ (H : Heap) (locs : List Loc), va_P D vwCl (w_X12_dug a0 q_digs q_chance q_weight q_draft q_text q_depths q_tune q_far q_books q_told q_years q_months q_ring q_woods q_ends q_wood q_sheets q_marsh q_oldest q_youngest q_knowns q_known q_isKept cA s_trace s_typed s_earliest s_latest s_firstYear s_rings s_digs s_chance s_weight s_draft) H → va_D A (w_X12_dug a0 q_digs q_chance q_weight q_draft q_text q_depths q_tune q_far q_books q_told q_years q_months q_ring q_woods q_ends q_wood q_sheets q_marsh q_oldest q_youngest q_knowns q_known q_isKept cA s_trace s_typed s_earliest s_latest s_firstYear s_rings s_digs s_chance s_weight s_draft) → va_S A s.heap H locs → ∀ ls : Array Slot, lv_has ls 7 [(0, .ref a0), (1, .int x1), (3, .long x3), (5, .int x5)] → W p l e rm_X12_dug s m args below meth c H locs 0 0 (MQ below (CQ D (some (.int o_r)) (w_X12_dug a0 q_digs q_chance q_weight q_draft q_text q_depths q_tune q_far q_books q_told q_years q_months q_ring q_woods q_ends q_wood q_sheets q_marsh q_oldest q_youngest q_knowns q_known q_isKept cA s_trace s_typed s_earliest s_latest s_firstYear s_rings o_digs s_chance o_weight o_draft) A) args s 0 0 A) (F0 m 123 ls []) := by
  obtain ⟨hx, hb, hml, hown, hts, hr, hlocks, hX⟩ := C0
  have hK := hX.1
  have hN := hX.2
  intro k
  induction k with
  | zero =>
    intro x3 x5 s_digs s_weight s_draft hf
    cases hf
  | succ k ih =>
    intro x3 x5 s_digs s_weight s_draft hf H locs hP hD hS ls hl
    rw [f_X12_dug_123] at hf
    refine lv_iload hx hb dX12_dug_123 (lv_at hl 3 rfl) ?_
    refine lv_iconst (v := (5 : Int32)) hx hb dX12_dug_125 (by decide) ?_
    refine lv_icmp_ge (tgt := 154) hx hb dX12_dug_126 (by decide) (fun c_1 => ?_) (fun c_1 => ?_)
    · have hf := pbr_t c_1 hf
      refine lv_iconst (v := (0 : Int32)) hx hb dX12_dug_154 (by decide) ?_
      refine lv_istore (lv' := [(5, .int (0 : Int32)), (0, .ref a0), (1, .int x1), (3, .long x3)]) hx hb dX12_dug_155 hl (by decide) rfl (fun ls hl => ?_)
      exact k_X12_dug_157 ⟨hx, hb, hml, hown, hts, hr, hlocks, hX⟩ hA FU x3 (0 : Int32) s_digs s_weight s_draft hf _ _ hP hD hS ls (lv_sub hl [1, 2, 3, 0] rfl)
    have hf := pbr_f c_1 hf
    refine lv_aload_n hx hb dX12_dug_129 rfl (lv_at hl 0 rfl) ?_
    refine va_get (D := D) (ci := 12) (v := .ref q_draft) (C := RX12) (T := TX12) (N := 29) hx hb hts hn_X12_dug_X12 hown hK hP 0 rfl rfl 27 (by decide) (hts _ hw_X12_dug_f75) (fun _ h9 => h9) rfl dX12_dug_130 ?_
    refine lv_iload hx hb dX12_dug_133 (lv_at hl 3 rfl) ?_
    obtain ⟨g_2, hf⟩ := pgd_e hf
    refine va_lald hx hb hK hP 4 2 rfl rfl g_2 dX12_dug_135 ?_
    refine lv_lload_n hx hb dX12_dug_136 rfl (lv_at hl 2 rfl) ?_
    obtain ⟨g_3, hf⟩ := pgd_e hf
    refine lv_ldiv hx hb dX12_dug_137 g_3 ?_
    refine lv_ldc2 (v := (1000000000000 : Int64)) hx hb hown (hts _ hw_X12_dug_c172) dX12_dug_138 ?_
    refine W.lcmp hx hb dX12_dug_141 ?_
    refine lv_if_le (tgt := 148) hx hb dX12_dug_142 (by decide) (fun c_4 => ?_) (fun c_4 => ?_)
    · have hf := pbr_t c_4 hf
      obtain ⟨x5_5, ex5_5⟩ : ∃ z : Int32, z = x5 + (1 : Int32) := ⟨_, rfl⟩
      have hf := plt_e ex5_5 hf
      refine lv_iinc (v := x5_5) (lv' := [(5, .int x5_5), (0, .ref a0), (1, .int x1), (3, .long x3)]) hx hb dX12_dug_148 hl (k := 3) rfl (by rw [ex5_5]; rfl) (by decide) rfl (fun ls hl => ?_)
      refine lv_goto (tgt := 123) hx hb dX12_dug_151 (by decide) ?_
      exact ih x3 x5_5 s_digs s_weight s_draft hf _ _ hP hD hS ls (lv_sub hl [1, 2, 3, 0] rfl)
    have hf := pbr_f c_4 hf
    refine lv_bipush (v := (-3 : Int32)) hx hb dX12_dug_145 (by decide) ?_
    obtain ⟨rfl, rfl, rfl, rfl⟩ := pe4 hf
    exact m_iret hx hb hr hlocks hP hS dX12_dug_147

def f_X12_dug_90 (r42 : (Int64) → (Int32) → (Nat → Int32) → (Nat → Int64) → (Nat → Int64) → Option ((Int32) × (Nat → Int32) × (Nat → Int64) × (Nat → Int64))) (s_chance : Nat → Int32) (x1 : Int32) (x2 : Int32) (x3 : Int64) (x5 : Int32) (z1 : Int32) (z2 : Int64) (z3 : Int32) (s_digs : Nat → Int32) (s_weight : Nat → Int64) (s_draft : Nat → Int64) : Option ((Int32) × (Nat → Int32) × (Nat → Int64) × (Nat → Int64)) :=
  pgd (pin z1 5) (
  plt (vp_updL s_draft z1.toNatClampNeg (z2 * z3.toInt64) : Nat → Int64) (fun f_2 => (
  pgd (pin x5 5) (
  pcl (f_X12_common (f_2 x5.toNatClampNeg) x3) (fun r_4 => (
  plt (x5 + (1 : Int32) : Int32) (fun x5_6 => (
  r42 r_4 x5_6 s_digs s_weight f_2))))))))

set_option maxRecDepth 100000 in
set_option maxHeartbeats 4000000 in
theorem k_X12_dug_90 {p : Program} {l : Launch} {e : Env} {s : State} {m : MethodId} {args : Array Value} {below : List Frame} {meth : Method} {c : Code} {A : Nat → Prop} {D : va_G} {cA : Nat → ClassId} (C0 : MX p s m args meth c cX12_dug 7 wsX12_dug RX12 (some .int) D cA) (hA : ∀ q, s.heap.size ≤ q → A q) {a0 : Nat} {q_digs : Nat} {q_chance : Nat} {q_weight : Nat} {q_draft : Nat} {q_text : Nat} {q_depths : Nat} {q_tune : Nat} {q_far : Nat} {q_books : Nat} {q_told : Nat} {q_years : Nat} {q_months : Nat} {q_ring : Nat} {q_woods : Nat} {q_ends : Nat} {q_wood : Nat} {q_sheets : Nat} {q_marsh : Nat} {q_oldest : Nat} {q_youngest : Nat} {q_knowns : Nat} {q_known : Nat} {q_isKept : Nat} {s_trace : Int64} {s_typed : Int32} {s_earliest : Int32} {s_latest : Int32} {s_firstYear : Int32} {s_rings : Int32} {s_chance : Nat → Int32} {x1 : Int32} {x2 : Int32} {o_r : Int32} {o_digs : Nat → Int32} {o_weight : Nat → Int64} {o_draft : Nat → Int64} {r42 : (Int64) → (Int32) → (Nat → Int32) → (Nat → Int64) → (Nat → Int64) → Option ((Int32) × (Nat → Int32) × (Nat → Int64) × (Nat → Int64))} (hr42 : ∀ (x3 : Int64) (x5 : Int32) (s_digs : Nat → Int32) (s_weight : Nat → Int64) (s_draft : Nat → Int64), r42 x3 x5 s_digs s_weight s_draft = some (o_r, o_digs, o_weight, o_draft) → ∀ (H : Heap) (locs : List Loc), va_P D vwCl (w_X12_dug a0 q_digs q_chance q_weight q_draft q_text q_depths q_tune q_far q_books q_told q_years q_months q_ring q_woods q_ends q_wood q_sheets q_marsh q_oldest q_youngest q_knowns q_known q_isKept cA s_trace s_typed s_earliest s_latest s_firstYear s_rings s_digs s_chance s_weight s_draft) H → va_D A (w_X12_dug a0 q_digs q_chance q_weight q_draft q_text q_depths q_tune q_far q_books q_told q_years q_months q_ring q_woods q_ends q_wood q_sheets q_marsh q_oldest q_youngest q_knowns q_known q_isKept cA s_trace s_typed s_earliest s_latest s_firstYear s_rings s_digs s_chance s_weight s_draft) → va_S A s.heap H locs → ∀ ls : Array Slot, lv_has ls 7 [(0, .ref a0), (1, .int x1), (2, .int x2), (3, .long x3), (5, .int x5)] → W p l e rm_X12_dug s m args below meth c H locs 0 0 (MQ below (CQ D (some (.int o_r)) (w_X12_dug a0 q_digs q_chance q_weight q_draft q_text q_depths q_tune q_far q_books q_told q_years q_months q_ring q_woods q_ends q_wood q_sheets q_marsh q_oldest q_youngest q_knowns q_known q_isKept cA s_trace s_typed s_earliest s_latest s_firstYear s_rings o_digs s_chance o_weight o_draft) A) args s 0 0 A) (F0 m 42 ls [])) : ∀ (x3 : Int64) (x5 : Int32) (z1 : Int32) (z2 : Int64) (z3 : Int32) (s_digs : Nat → Int32) (s_weight : Nat → Int64) (s_draft : Nat → Int64), f_X12_dug_90 r42 s_chance x1 x2 x3 x5 z1 z2 z3 s_digs s_weight s_draft = some (o_r, o_digs, o_weight, o_draft) → ∀ (H : Heap) (locs : List Loc), va_P D vwCl (w_X12_dug a0 q_digs q_chance q_weight q_draft q_text q_depths q_tune q_far q_books q_told q_years q_months q_ring q_woods q_ends q_wood q_sheets q_marsh q_oldest q_youngest q_knowns q_known q_isKept cA s_trace s_typed s_earliest s_latest s_firstYear s_rings s_digs s_chance s_weight s_draft) H → va_D A (w_X12_dug a0 q_digs q_chance q_weight q_draft q_text q_depths q_tune q_far q_books q_told q_years q_months q_ring q_woods q_ends q_wood q_sheets q_marsh q_oldest q_youngest q_knowns q_known q_isKept cA s_trace s_typed s_earliest s_latest s_firstYear s_rings s_digs s_chance s_weight s_draft) → va_S A s.heap H locs → ∀ ls : Array Slot, lv_has ls 7 [(0, .ref a0), (1, .int x1), (2, .int x2), (3, .long x3), (5, .int x5)] → W p l e rm_X12_dug s m args below meth c H locs 0 0 (MQ below (CQ D (some (.int o_r)) (w_X12_dug a0 q_digs q_chance q_weight q_draft q_text q_depths q_tune q_far q_books q_told q_years q_months q_ring q_woods q_ends q_wood q_sheets q_marsh q_oldest q_youngest q_knowns q_known q_isKept cA s_trace s_typed s_earliest s_latest s_firstYear s_rings o_digs s_chance o_weight o_draft) A) args s 0 0 A) (F0 m 90 ls [.int z3, .long z2, .int z1, .ref q_draft]) := by
  obtain ⟨hx, hb, hml, hown, hts, hr, hlocks, hX⟩ := C0
  have hK := hX.1
  have hN := hX.2
  intro x3 x5 z1 z2 z3 s_digs s_weight s_draft hf H locs hP hD hS ls hl
  unfold f_X12_dug_90 at hf
  refine lv_i2l hx hb dX12_dug_90 rfl ?_
  refine lv_lmul hx hb dX12_dug_91 ?_
  obtain ⟨g_1, hf⟩ := pgd_e hf
  refine va_last hx hb hK hP hD hS 4 2 rfl rfl g_1 dX12_dug_92 (fun H locs hP hD hS => ?_)
  obtain ⟨f_2, ef_2⟩ : ∃ z : Nat → Int64, z = vp_updL s_draft z1.toNatClampNeg (z2 * z3.toInt64) := ⟨_, rfl⟩
  have hf := plt_e ef_2 hf
  have hP : va_P D vwCl (w_X12_dug a0 q_digs q_chance q_weight q_draft q_text q_depths q_tune q_far q_books q_told q_years q_months q_ring q_woods q_ends q_wood q_sheets q_marsh q_oldest q_youngest q_knowns q_known q_isKept cA s_trace s_typed s_earliest s_latest s_firstYear s_rings s_digs s_chance s_weight f_2) H := by rw [ef_2]; exact hP
  have hD : va_D A (w_X12_dug a0 q_digs q_chance q_weight q_draft q_text q_depths q_tune q_far q_books q_told q_years q_months q_ring q_woods q_ends q_wood q_sheets q_marsh q_oldest q_youngest q_knowns q_known q_isKept cA s_trace s_typed s_earliest s_latest s_firstYear s_rings s_digs s_chance s_weight f_2) := by rw [ef_2]; exact hD
  refine lv_aload_n hx hb dX12_dug_93 rfl (lv_at hl 0 rfl) ?_
  refine va_get (D := D) (ci := 12) (v := .ref q_draft) (C := RX12) (T := TX12) (N := 29) hx hb hts hn_X12_dug_X12 hown hK hP 0 rfl rfl 27 (by decide) (hts _ hw_X12_dug_f75) (fun _ h9 => h9) rfl dX12_dug_94 ?_
  refine lv_iload hx hb dX12_dug_97 (lv_at hl 4 rfl) ?_
  obtain ⟨g_3, hf⟩ := pgd_e hf
  refine va_lald hx hb hK hP 4 2 rfl rfl g_3 dX12_dug_99 ?_
  refine lv_lload_n hx hb dX12_dug_100 rfl (lv_at hl 3 rfl) ?_
  obtain ⟨r_4, hc_5, hf⟩ := pcl_e hf
  refine m_callS2 (As := [.long (f_2 x5.toNatClampNeg), .long x3]) (rest := []) ⟨hx, hb, hml, hown, hts⟩ hX (ct_X12_common l D cA (f_2 x5.toNatClampNeg) x3 r_4 hc_5) (va_cwS 2 hts gX12_dug_X12_common rfl rfl rfl (by decide +kernel) ⟨Nat.le_of_ble_eq_true rfl, Nat.le_of_ble_eq_true rfl⟩) hP hD hS hA [] [0, 1, 2, 3, 4] 5 (by decide) rfl rfl (WS' := (w_X12_dug a0 q_digs q_chance q_weight q_draft q_text q_depths q_tune q_far q_books q_told q_years q_months q_ring q_woods q_ends q_wood q_sheets q_marsh q_oldest q_youngest q_knowns q_known q_isKept cA s_trace s_typed s_earliest s_latest s_firstYear s_rings s_digs s_chance s_weight f_2)) (WR := [(a0, .inr (12, [.long s_trace, .ref q_text, .int s_typed, .ref q_depths, .ref q_tune, .ref q_far, .ref q_books, .ref q_told, .int s_earliest, .int s_latest, .ref q_years, .ref q_months, .int s_firstYear, .int s_rings, .ref q_ring, .ref q_woods, .ref q_ends, .ref q_wood, .ref q_sheets, .ref q_marsh, .ref q_oldest, .ref q_youngest, .ref q_knowns, .ref q_known, .ref q_weight, .ref q_chance, .ref q_digs, .ref q_draft, .ref q_isKept])), (q_digs, .inl (cA 1, 3, .inl s_digs)), (q_chance, .inl (cA 1, 30, .inl s_chance)), (q_weight, .inl (cA 2, 15, .inr (.inl s_weight))), (q_draft, .inl (cA 2, 5, .inr (.inl f_2)))]) rfl rfl rfl rfl (by decide) (by decide) rfl hl.1 rfl (st' := [.long r_4]) rfl (Nat.le_of_ble_eq_true rfl) ⟨Nat.zero_le _, Nat.zero_le _⟩ dX12_dug_101 (fun H locs hP hD hS => ?_)
  refine lv_lstore_n (lv' := [(3, .long r_4), (0, .ref a0), (1, .int x1), (2, .int x2), (5, .int x5)]) hx hb dX12_dug_104 rfl hl (by decide) rfl (fun ls hl => ?_)
  obtain ⟨x5_6, ex5_6⟩ : ∃ z : Int32, z = x5 + (1 : Int32) := ⟨_, rfl⟩
  have hf := plt_e ex5_6 hf
  refine lv_iinc (v := x5_6) (lv' := [(5, .int x5_6), (3, .long r_4), (0, .ref a0), (1, .int x1), (2, .int x2)]) hx hb dX12_dug_105 hl (k := 4) rfl (by rw [ex5_6]; rfl) (by decide) rfl (fun ls hl => ?_)
  refine lv_goto (tgt := 42) hx hb dX12_dug_108 (by decide) ?_
  exact hr42 r_4 x5_6 s_digs s_weight f_2 hf _ _ hP hD hS ls (lv_sub hl [2, 3, 4, 1, 0] rfl)

def f_X12_dug_42 (s_chance : Nat → Int32) (x1 : Int32) (x2 : Int32) : Nat → (Int64) → (Int32) → (Nat → Int32) → (Nat → Int64) → (Nat → Int64) → Option ((Int32) × (Nat → Int32) × (Nat → Int64) × (Nat → Int64))
  | 0, _, _, _, _, _ => none
  | k + 1, x3, x5, s_digs, s_weight, s_draft =>
    pbr ((5 : Int32) ≤ x5)
      (pbr ((lg_cmp x3 (0 : Int64)) = 0)
        (some ((-2 : Int32), s_digs, s_weight, s_draft))
        (f_X12_dug_123 s_chance x1 x2 FU x3 (0 : Int32) s_digs s_weight s_draft))
      (pgd (pin (((6 : Int32) * x5) + x1) 30) (
      plt ((s_chance (((6 : Int32) * x5) + x1).toNatClampNeg) : Int32) (fun x6_4 => (
      pgd (pin x5 15) (
      pbr (x2 = (1 : Int32))
        (f_X12_dug_90 (f_X12_dug_42 s_chance x1 x2 k) s_chance x1 x2 x3 x5 x5 (s_weight x5.toNatClampNeg) x6_4 s_digs s_weight s_draft)
        (f_X12_dug_90 (f_X12_dug_42 s_chance x1 x2 k) s_chance x1 x2 x3 x5 x5 (s_weight x5.toNatClampNeg) ((10 : Int32) - x6_4) s_digs s_weight s_draft))))))

set_option maxRecDepth 100000 in
set_option maxHeartbeats 4000000 in
theorem k_X12_dug_42 {p : Program} {l : Launch} {e : Env} {s : State} {m : MethodId} {args : Array Value} {below : List Frame} {meth : Method} {c : Code} {A : Nat → Prop} {D : va_G} {cA : Nat → ClassId} (C0 : MX p s m args meth c cX12_dug 7 wsX12_dug RX12 (some .int) D cA) (hA : ∀ q, s.heap.size ≤ q → A q) {a0 : Nat} {q_digs : Nat} {q_chance : Nat} {q_weight : Nat} {q_draft : Nat} {q_text : Nat} {q_depths : Nat} {q_tune : Nat} {q_far : Nat} {q_books : Nat} {q_told : Nat} {q_years : Nat} {q_months : Nat} {q_ring : Nat} {q_woods : Nat} {q_ends : Nat} {q_wood : Nat} {q_sheets : Nat} {q_marsh : Nat} {q_oldest : Nat} {q_youngest : Nat} {q_knowns : Nat} {q_known : Nat} {q_isKept : Nat} {s_trace : Int64} {s_typed : Int32} {s_earliest : Int32} {s_latest : Int32} {s_firstYear : Int32} {s_rings : Int32} {s_chance : Nat → Int32} {x1 : Int32} {x2 : Int32} {o_r : Int32} {o_digs : Nat → Int32} {o_weight : Nat → Int64} {o_draft : Nat → Int64} : ∀ (k : Nat) (x3 : Int64) (x5 : Int32) (s_digs : Nat → Int32) (s_weight : Nat → Int64) (s_draft : Nat → Int64), f_X12_dug_42 s_chance x1 x2 k x3 x5 s_digs s_weight s_draft = some (o_r, o_digs, o_weight, o_draft) → ∀ (H : Heap) (locs : List Loc), va_P D vwCl (w_X12_dug a0 q_digs q_chance q_weight q_draft q_text q_depths q_tune q_far q_books q_told q_years q_months q_ring q_woods q_ends q_wood q_sheets q_marsh q_oldest q_youngest q_knowns q_known q_isKept cA s_trace s_typed s_earliest s_latest s_firstYear s_rings s_digs s_chance s_weight s_draft) H → va_D A (w_X12_dug a0 q_digs q_chance q_weight q_draft q_text q_depths q_tune q_far q_books q_told q_years q_months q_ring q_woods q_ends q_wood q_sheets q_marsh q_oldest q_youngest q_knowns q_known q_isKept cA s_trace s_typed s_earliest s_latest s_firstYear s_rings s_digs s_chance s_weight s_draft) → va_S A s.heap H locs → ∀ ls : Array Slot, lv_has ls 7 [(0, .ref a0), (1, .int x1), (2, .int x2), (3, .long x3), (5, .int x5)] → W p l e rm_X12_dug s m args below meth c H locs 0 0 (MQ below (CQ D (some (.int o_r)) (w_X12_dug a0 q_digs q_chance q_weight q_draft q_text q_depths q_tune q_far q_books q_told q_years q_months q_ring q_woods q_ends q_wood q_sheets q_marsh q_oldest q_youngest q_knowns q_known q_isKept cA s_trace s_typed s_earliest s_latest s_firstYear s_rings o_digs s_chance o_weight o_draft) A) args s 0 0 A) (F0 m 42 ls []) := by
  obtain ⟨hx, hb, hml, hown, hts, hr, hlocks, hX⟩ := C0
  have hK := hX.1
  have hN := hX.2
  intro k
  induction k with
  | zero =>
    intro x3 x5 s_digs s_weight s_draft hf
    cases hf
  | succ k ih =>
    intro x3 x5 s_digs s_weight s_draft hf H locs hP hD hS ls hl
    rw [f_X12_dug_42] at hf
    refine lv_iload hx hb dX12_dug_42 (lv_at hl 4 rfl) ?_
    refine lv_iconst (v := (5 : Int32)) hx hb dX12_dug_44 (by decide) ?_
    refine lv_icmp_ge (tgt := 111) hx hb dX12_dug_45 (by decide) (fun c_1 => ?_) (fun c_1 => ?_)
    · have hf := pbr_t c_1 hf
      refine lv_lload_n hx hb dX12_dug_111 rfl (lv_at hl 3 rfl) ?_
      refine lv_lconst (v := (0 : Int64)) hx hb dX12_dug_112 (by decide) ?_
      refine W.lcmp hx hb dX12_dug_113 ?_
      refine lv_if_ne (tgt := 120) hx hb dX12_dug_114 (by decide) (fun c_2 => ?_) (fun c_2 => ?_)
      · have hf := pbr_f c_2 hf
        refine lv_iconst (v := (0 : Int32)) hx hb dX12_dug_120 (by decide) ?_
        refine lv_istore (lv' := [(5, .int (0 : Int32)), (0, .ref a0), (1, .int x1), (2, .int x2), (3, .long x3)]) hx hb dX12_dug_121 hl (by decide) rfl (fun ls hl => ?_)
        exact k_X12_dug_123 ⟨hx, hb, hml, hown, hts, hr, hlocks, hX⟩ hA FU x3 (0 : Int32) s_digs s_weight s_draft hf _ _ hP hD hS ls (lv_sub hl [1, 2, 4, 0] rfl)
      have hf := pbr_t c_2 hf
      refine lv_bipush (v := (-2 : Int32)) hx hb dX12_dug_117 (by decide) ?_
      obtain ⟨rfl, rfl, rfl, rfl⟩ := pe4 hf
      exact m_iret hx hb hr hlocks hP hS dX12_dug_119
    have hf := pbr_f c_1 hf
    refine lv_aload_n hx hb dX12_dug_48 rfl (lv_at hl 0 rfl) ?_
    refine va_get (D := D) (ci := 12) (v := .ref q_chance) (C := RX12) (T := TX12) (N := 29) hx hb hts hn_X12_dug_X12 hown hK hP 0 rfl rfl 25 (by decide) (hts _ hw_X12_dug_f69) (fun _ h9 => h9) rfl dX12_dug_49 ?_
    refine lv_bipush (v := (6 : Int32)) hx hb dX12_dug_52 (by decide) ?_
    refine lv_iload hx hb dX12_dug_54 (lv_at hl 4 rfl) ?_
    refine lv_imul hx hb dX12_dug_56 ?_
    refine lv_iload_n hx hb dX12_dug_57 rfl (lv_at hl 1 rfl) ?_
    refine lv_iadd hx hb dX12_dug_58 ?_
    obtain ⟨g_3, hf⟩ := pgd_e hf
    refine va_iald hx hb hK hP 2 1 rfl rfl g_3 dX12_dug_59 ?_
    refine lv_topi (fun x6_4 ex6_4 => ?_)
    have hf := plt_e ex6_4 hf
    refine lv_istore (lv' := [(6, .int x6_4), (0, .ref a0), (1, .int x1), (2, .int x2), (3, .long x3), (5, .int x5)]) hx hb dX12_dug_60 hl (by decide) rfl (fun ls hl => ?_)
    refine lv_aload_n hx hb dX12_dug_62 rfl (lv_at hl 1 rfl) ?_
    refine va_get (D := D) (ci := 12) (v := .ref q_draft) (C := RX12) (T := TX12) (N := 29) hx hb hts hn_X12_dug_X12 hown hK hP 0 rfl rfl 27 (by decide) (hts _ hw_X12_dug_f75) (fun _ h9 => h9) rfl dX12_dug_63 ?_
    refine lv_iload hx hb dX12_dug_66 (lv_at hl 5 rfl) ?_
    refine lv_aload_n hx hb dX12_dug_68 rfl (lv_at hl 1 rfl) ?_
    refine va_get (D := D) (ci := 12) (v := .ref q_weight) (C := RX12) (T := TX12) (N := 29) hx hb hts hn_X12_dug_X12 hown hK hP 0 rfl rfl 24 (by decide) (hts _ hw_X12_dug_f65) (fun _ h9 => h9) rfl dX12_dug_69 ?_
    refine lv_iload hx hb dX12_dug_72 (lv_at hl 5 rfl) ?_
    obtain ⟨g_5, hf⟩ := pgd_e hf
    refine va_lald hx hb hK hP 3 2 rfl rfl g_5 dX12_dug_74 ?_
    refine lv_iload_n hx hb dX12_dug_75 rfl (lv_at hl 3 rfl) ?_
    refine lv_iconst (v := (1 : Int32)) hx hb dX12_dug_76 (by decide) ?_
    refine lv_icmp_ne (tgt := 85) hx hb dX12_dug_77 (by decide) (fun c_6 => ?_) (fun c_6 => ?_)
    · have hf := pbr_f c_6 hf
      refine lv_bipush (v := (10 : Int32)) hx hb dX12_dug_85 (by decide) ?_
      refine lv_iload hx hb dX12_dug_87 (lv_at hl 0 rfl) ?_
      refine lv_isub hx hb dX12_dug_89 ?_
      exact k_X12_dug_90 ⟨hx, hb, hml, hown, hts, hr, hlocks, hX⟩ hA ih x3 x5 x5 (s_weight x5.toNatClampNeg) ((10 : Int32) - x6_4) s_digs s_weight s_draft hf _ _ hP hD hS ls (lv_sub hl [1, 2, 3, 4, 5] rfl)
    have hf := pbr_t c_6 hf
    refine lv_iload hx hb dX12_dug_80 (lv_at hl 0 rfl) ?_
    refine lv_goto (tgt := 90) hx hb dX12_dug_82 (by decide) ?_
    exact k_X12_dug_90 ⟨hx, hb, hml, hown, hts, hr, hlocks, hX⟩ hA ih x3 x5 x5 (s_weight x5.toNatClampNeg) x6_4 s_digs s_weight s_draft hf _ _ hP hD hS ls (lv_sub hl [1, 2, 3, 4, 5] rfl)

def f_X12_dug (x1 : Int32) (x2 : Int32) (s_digs : Nat → Int32) (s_chance : Nat → Int32) (s_weight : Nat → Int64) (s_draft : Nat → Int64) : Option ((Int32) × (Nat → Int32) × (Nat → Int64) × (Nat → Int64)) :=
  pcl (f_X12_in x1 (0 : Int32) (5 : Int32)) (fun r_1 => (
  pbr (r_1 = 0)
    (some ((-1 : Int32), s_digs, s_weight, s_draft))
    (pcl (f_X12_in x2 (0 : Int32) (1 : Int32)) (fun r_4 => (
    pbr (r_4 = 0)
      (some ((-1 : Int32), s_digs, s_weight, s_draft))
      (pbr ((((s_digs (0 : Int32).toNatClampNeg) >>> (x1 &&& 31)) &&& (1 : Int32)) = (1 : Int32))
        (some ((-2 : Int32), s_digs, s_weight, s_draft))
        (f_X12_dug_42 s_chance x1 x2 FU (0 : Int64) (0 : Int32) s_digs s_weight s_draft)))))))

set_option maxRecDepth 100000 in
set_option maxHeartbeats 4000000 in
theorem ct_X12_dug (l : Launch) (D : va_G) (cA : Nat → ClassId) (x1 : Int32) (x2 : Int32) (a0 : Nat) (q_digs : Nat) (q_chance : Nat) (q_weight : Nat) (q_draft : Nat) (q_text : Nat) (q_depths : Nat) (q_tune : Nat) (q_far : Nat) (q_books : Nat) (q_told : Nat) (q_years : Nat) (q_months : Nat) (q_ring : Nat) (q_woods : Nat) (q_ends : Nat) (q_wood : Nat) (q_sheets : Nat) (q_marsh : Nat) (q_oldest : Nat) (q_youngest : Nat) (q_knowns : Nat) (q_known : Nat) (q_isKept : Nat) (s_trace : Int64) (s_typed : Int32) (s_earliest : Int32) (s_latest : Int32) (s_firstYear : Int32) (s_rings : Int32) (s_digs : Nat → Int32) (s_chance : Nat → Int32) (s_weight : Nat → Int64) (s_draft : Nat → Int64) (o_r : Int32) (o_digs : Nat → Int32) (o_weight : Nat → Int64) (o_draft : Nat → Int64) (hf : f_X12_dug x1 x2 s_digs s_chance s_weight s_draft = some (o_r, o_digs, o_weight, o_draft)) : CT l yX12_dug wsX12_dug rm_X12_dug D cA [.ref a0, .int x1, .int x2] (w_X12_dug a0 q_digs q_chance q_weight q_draft q_text q_depths q_tune q_far q_books q_told q_years q_months q_ring q_woods q_ends q_wood q_sheets q_marsh q_oldest q_youngest q_knowns q_known q_isKept cA s_trace s_typed s_earliest s_latest s_firstYear s_rings s_digs s_chance s_weight s_draft) (w_X12_dug a0 q_digs q_chance q_weight q_draft q_text q_depths q_tune q_far q_books q_told q_years q_months q_ring q_woods q_ends q_wood q_sheets q_marsh q_oldest q_youngest q_knowns q_known q_isKept cA s_trace s_typed s_earliest s_latest s_firstYear s_rings o_digs s_chance o_weight o_draft) (some (.int o_r)) := by
  refine CT.ofW (cc := cX12_dug) (maxL := 7) (ret := (some .int)) (by decide +kernel) rfl (Nat.le_of_ble_eq_true rfl) ?_
  intro p e s m below meth c A C0 hA hP hD ls hl
  have C0 : MX p s m [.ref a0, .int x1, .int x2].toArray meth c cX12_dug 7 wsX12_dug RX12 (some .int) D cA := C0
  have hl : lv_has ls 7 [(0, .ref a0), (1, .int x1), (2, .int x2)] := hl
  obtain ⟨hx, hb, hml, hown, hts, hr, hlocks, hX⟩ := id C0
  have hK := hX.1
  have hN := hX.2
  have hS : va_S A s.heap s.heap [] := va_S.rf
  unfold f_X12_dug at hf
  refine lv_iload_n hx hb dX12_dug_0 rfl (lv_at hl 1 rfl) ?_
  refine lv_iconst (v := (0 : Int32)) hx hb dX12_dug_1 (by decide) ?_
  refine lv_iconst (v := (5 : Int32)) hx hb dX12_dug_2 (by decide) ?_
  obtain ⟨r_1, hc_2, hf⟩ := pcl_e hf
  refine m_callS2 (As := [.int x1, .int (0 : Int32), .int (5 : Int32)]) (rest := []) ⟨hx, hb, hml, hown, hts⟩ hX (ct_X12_in l D cA x1 (0 : Int32) (5 : Int32) r_1 hc_2) (va_cwS 3 hts gX12_dug_X12_in rfl rfl rfl (by decide +kernel) ⟨Nat.le_of_ble_eq_true rfl, Nat.le_of_ble_eq_true rfl⟩) hP hD hS hA [] [0, 1, 2, 3, 4] 5 (by decide) rfl rfl (WS' := (w_X12_dug a0 q_digs q_chance q_weight q_draft q_text q_depths q_tune q_far q_books q_told q_years q_months q_ring q_woods q_ends q_wood q_sheets q_marsh q_oldest q_youngest q_knowns q_known q_isKept cA s_trace s_typed s_earliest s_latest s_firstYear s_rings s_digs s_chance s_weight s_draft)) (WR := [(a0, .inr (12, [.long s_trace, .ref q_text, .int s_typed, .ref q_depths, .ref q_tune, .ref q_far, .ref q_books, .ref q_told, .int s_earliest, .int s_latest, .ref q_years, .ref q_months, .int s_firstYear, .int s_rings, .ref q_ring, .ref q_woods, .ref q_ends, .ref q_wood, .ref q_sheets, .ref q_marsh, .ref q_oldest, .ref q_youngest, .ref q_knowns, .ref q_known, .ref q_weight, .ref q_chance, .ref q_digs, .ref q_draft, .ref q_isKept])), (q_digs, .inl (cA 1, 3, .inl s_digs)), (q_chance, .inl (cA 1, 30, .inl s_chance)), (q_weight, .inl (cA 2, 15, .inr (.inl s_weight))), (q_draft, .inl (cA 2, 5, .inr (.inl s_draft)))]) rfl rfl rfl rfl (by decide) (by decide) rfl hl.1 rfl (st' := [.int r_1]) rfl (Nat.le_of_ble_eq_true rfl) ⟨Nat.zero_le _, Nat.zero_le _⟩ dX12_dug_3 (fun H locs hP hD hS => ?_)
  refine lv_if_eq (tgt := 18) hx hb dX12_dug_6 (by decide) (fun c_3 => ?_) (fun c_3 => ?_)
  · have hf := pbr_t c_3 hf
    refine lv_iconst (v := (-1 : Int32)) hx hb dX12_dug_18 (by decide) ?_
    obtain ⟨rfl, rfl, rfl, rfl⟩ := pe4 hf
    exact m_iret hx hb hr hlocks hP hS dX12_dug_19
  have hf := pbr_f c_3 hf
  refine lv_iload_n hx hb dX12_dug_9 rfl (lv_at hl 2 rfl) ?_
  refine lv_iconst (v := (0 : Int32)) hx hb dX12_dug_10 (by decide) ?_
  refine lv_iconst (v := (1 : Int32)) hx hb dX12_dug_11 (by decide) ?_
  obtain ⟨r_4, hc_5, hf⟩ := pcl_e hf
  refine m_callS2 (As := [.int x2, .int (0 : Int32), .int (1 : Int32)]) (rest := []) ⟨hx, hb, hml, hown, hts⟩ hX (ct_X12_in l D cA x2 (0 : Int32) (1 : Int32) r_4 hc_5) (va_cwS 3 hts gX12_dug_X12_in rfl rfl rfl (by decide +kernel) ⟨Nat.le_of_ble_eq_true rfl, Nat.le_of_ble_eq_true rfl⟩) hP hD hS hA [] [0, 1, 2, 3, 4] 5 (by decide) rfl rfl (WS' := (w_X12_dug a0 q_digs q_chance q_weight q_draft q_text q_depths q_tune q_far q_books q_told q_years q_months q_ring q_woods q_ends q_wood q_sheets q_marsh q_oldest q_youngest q_knowns q_known q_isKept cA s_trace s_typed s_earliest s_latest s_firstYear s_rings s_digs s_chance s_weight s_draft)) (WR := [(a0, .inr (12, [.long s_trace, .ref q_text, .int s_typed, .ref q_depths, .ref q_tune, .ref q_far, .ref q_books, .ref q_told, .int s_earliest, .int s_latest, .ref q_years, .ref q_months, .int s_firstYear, .int s_rings, .ref q_ring, .ref q_woods, .ref q_ends, .ref q_wood, .ref q_sheets, .ref q_marsh, .ref q_oldest, .ref q_youngest, .ref q_knowns, .ref q_known, .ref q_weight, .ref q_chance, .ref q_digs, .ref q_draft, .ref q_isKept])), (q_digs, .inl (cA 1, 3, .inl s_digs)), (q_chance, .inl (cA 1, 30, .inl s_chance)), (q_weight, .inl (cA 2, 15, .inr (.inl s_weight))), (q_draft, .inl (cA 2, 5, .inr (.inl s_draft)))]) rfl rfl rfl rfl (by decide) (by decide) rfl hl.1 rfl (st' := [.int r_4]) rfl (Nat.le_of_ble_eq_true rfl) ⟨Nat.zero_le _, Nat.zero_le _⟩ dX12_dug_12 (fun H locs hP hD hS => ?_)
  refine lv_if_ne (tgt := 20) hx hb dX12_dug_15 (by decide) (fun c_6 => ?_) (fun c_6 => ?_)
  · have hf := pbr_f c_6 hf
    refine lv_aload_n hx hb dX12_dug_20 rfl (lv_at hl 0 rfl) ?_
    refine va_get (D := D) (ci := 12) (v := .ref q_digs) (C := RX12) (T := TX12) (N := 29) hx hb hts hn_X12_dug_X12 hown hK hP 0 rfl rfl 26 (by decide) (hts _ hw_X12_dug_f72) (fun _ h9 => h9) rfl dX12_dug_21 ?_
    refine lv_iconst (v := (0 : Int32)) hx hb dX12_dug_24 (by decide) ?_
    refine va_iald hx hb hK hP 1 1 rfl rfl (show pin (0 : Int32) 3 by decide +kernel) dX12_dug_25 ?_
    refine lv_iload_n hx hb dX12_dug_26 rfl (lv_at hl 1 rfl) ?_
    refine lv_ishr hx hb dX12_dug_27 ?_
    refine lv_iconst (v := (1 : Int32)) hx hb dX12_dug_28 (by decide) ?_
    refine lv_iand hx hb dX12_dug_29 ?_
    refine lv_iconst (v := (1 : Int32)) hx hb dX12_dug_30 (by decide) ?_
    refine lv_icmp_ne (tgt := 37) hx hb dX12_dug_31 (by decide) (fun c_7 => ?_) (fun c_7 => ?_)
    · have hf := pbr_f c_7 hf
      refine lv_lconst (v := (0 : Int64)) hx hb dX12_dug_37 (by decide) ?_
      refine lv_lstore_n (lv' := [(3, .long (0 : Int64)), (0, .ref a0), (1, .int x1), (2, .int x2)]) hx hb dX12_dug_38 rfl hl (by decide) rfl (fun ls hl => ?_)
      refine lv_iconst (v := (0 : Int32)) hx hb dX12_dug_39 (by decide) ?_
      refine lv_istore (lv' := [(5, .int (0 : Int32)), (3, .long (0 : Int64)), (0, .ref a0), (1, .int x1), (2, .int x2)]) hx hb dX12_dug_40 hl (by decide) rfl (fun ls hl => ?_)
      exact k_X12_dug_42 C0 hA FU (0 : Int64) (0 : Int32) s_digs s_weight s_draft hf _ _ hP hD hS ls (lv_sub hl [2, 3, 4, 1, 0] rfl)
    have hf := pbr_t c_7 hf
    refine lv_bipush (v := (-2 : Int32)) hx hb dX12_dug_34 (by decide) ?_
    obtain ⟨rfl, rfl, rfl, rfl⟩ := pe4 hf
    exact m_iret hx hb hr hlocks hP hS dX12_dug_36
  have hf := pbr_t c_6 hf
  refine lv_iconst (v := (-1 : Int32)) hx hb dX12_dug_18 (by decide) ?_
  obtain ⟨rfl, rfl, rfl, rfl⟩ := pe4 hf
  exact m_iret hx hb hr hlocks hP hS dX12_dug_19
