/-! ===== OrphanWaveModel.in(III)Z ===== -/
abbrev rm_X12_in : Room := { frames := 0, cells := 0, slots := 0, locals := 0 }
abbrev w_X12_in  (cA : Nat → ClassId)  : va_W := []

def f_X12_in (x0 : Int32) (x1 : Int32) (x2 : Int32) : Option ((Int32)) :=
  pbr (x0 < x1)
    (some ((0 : Int32)))
    (pbr (x2 < x0)
      (some ((0 : Int32)))
      (some ((1 : Int32))))

set_option maxRecDepth 100000 in
set_option maxHeartbeats 4000000 in
theorem ct_X12_in (l : Launch) (D : va_G) (cA : Nat → ClassId) (x0 : Int32) (x1 : Int32) (x2 : Int32) (o_r : Int32) (hf : f_X12_in x0 x1 x2 = some o_r) : CT l yX12_in wsX12_in rm_X12_in D cA [.int x0, .int x1, .int x2] (w_X12_in  cA ) (w_X12_in  cA ) (some (.int o_r)) := by
  refine CT.ofW (cc := cX12_in) (maxL := 3) (ret := (some .boolean)) (by decide +kernel) rfl (Nat.le_of_ble_eq_true rfl) ?_
  intro p e s m below meth c A C0 hA hP hD ls hl
  have C0 : MX p s m [.int x0, .int x1, .int x2].toArray meth c cX12_in 3 wsX12_in RX12 (some .boolean) D cA := C0
  have hl : lv_has ls 3 [(0, .int x0), (1, .int x1), (2, .int x2)] := hl
  obtain ⟨hx, hb, hml, hown, hts, hr, hlocks, hX⟩ := id C0
  have hK := hX.1
  have hN := hX.2
  have hS : va_S A s.heap s.heap [] := va_S.rf
  unfold f_X12_in at hf
  refine lv_iload_n hx hb dX12_in_0 rfl (lv_at hl 0 rfl) ?_
  refine lv_iload_n hx hb dX12_in_1 rfl (lv_at hl 1 rfl) ?_
  refine lv_icmp_lt (tgt := 14) hx hb dX12_in_2 (by decide) (fun c_1 => ?_) (fun c_1 => ?_)
  · have hf := pbr_t c_1 hf
    refine lv_iconst (v := (0 : Int32)) hx hb dX12_in_14 (by decide) ?_
    obtain rfl := pe1 hf
    exact m_zret (by decide) hx hb hr hlocks hP hS dX12_in_15
  have hf := pbr_f c_1 hf
  refine lv_iload_n hx hb dX12_in_5 rfl (lv_at hl 0 rfl) ?_
  refine lv_iload_n hx hb dX12_in_6 rfl (lv_at hl 2 rfl) ?_
  refine lv_icmp_gt (tgt := 14) hx hb dX12_in_7 (by decide) (fun c_2 => ?_) (fun c_2 => ?_)
  · have hf := pbr_t c_2 hf
    refine lv_iconst (v := (0 : Int32)) hx hb dX12_in_14 (by decide) ?_
    obtain rfl := pe1 hf
    exact m_zret (by decide) hx hb hr hlocks hP hS dX12_in_15
  have hf := pbr_f c_2 hf
  refine lv_iconst (v := (1 : Int32)) hx hb dX12_in_10 (by decide) ?_
  refine lv_goto (tgt := 15) hx hb dX12_in_11 (by decide) ?_
  obtain rfl := pe1 hf
  exact m_zret (by decide) hx hb hr hlocks hP hS dX12_in_15

/-! ===== OrphanWaveModel.type(JI)I ===== -/
abbrev rm_X12_type : Room := { frames := 1, cells := 0, slots := 0, locals := 22 }
abbrev w_X12_type (a0 : Nat) (q_text : Nat) (q_depths : Nat) (q_tune : Nat) (q_far : Nat) (q_books : Nat) (q_told : Nat) (q_years : Nat) (q_months : Nat) (q_ring : Nat) (q_woods : Nat) (q_ends : Nat) (q_wood : Nat) (q_sheets : Nat) (q_marsh : Nat) (q_oldest : Nat) (q_youngest : Nat) (q_knowns : Nat) (q_known : Nat) (q_weight : Nat) (q_chance : Nat) (q_digs : Nat) (q_draft : Nat) (q_isKept : Nat) (cA : Nat → ClassId) (s_trace : Int64) (s_typed : Int32) (s_earliest : Int32) (s_latest : Int32) (s_firstYear : Int32) (s_rings : Int32) (s_text : Nat → Int32) : va_W := [(a0, .inr (12, [.long s_trace, .ref q_text, .int s_typed, .ref q_depths, .ref q_tune, .ref q_far, .ref q_books, .ref q_told, .int s_earliest, .int s_latest, .ref q_years, .ref q_months, .int s_firstYear, .int s_rings, .ref q_ring, .ref q_woods, .ref q_ends, .ref q_wood, .ref q_sheets, .ref q_marsh, .ref q_oldest, .ref q_youngest, .ref q_knowns, .ref q_known, .ref q_weight, .ref q_chance, .ref q_digs, .ref q_draft, .ref q_isKept])), (q_text, .inl (cA 0, 400, .inl s_text))]
theorem hn_X12_type_X12 : ∀ w ∈ u_ws RX12 TX12 29, w ∈ wsX12_type := by decide +kernel
theorem hw_X12_type_f90 : Cond.fieldLink RX12 90 "OrphanWaveModel" "typed" "I" ∈ wsX12_type := by decide +kernel
theorem hw_X12_type_f7 : Cond.fieldLink RX12 7 "OrphanWaveModel" "text" "[B" ∈ wsX12_type := by decide +kernel
theorem hw_X12_type_c93 : Cond.constantLong RX12 93 (255) ∈ wsX12_type := by decide +kernel

def f_X12_type_32 (x1 : Int64) (x3 : Int32) : Nat → (Int32) → (Int32) → (Nat → Int32) → Option ((Int32) × (Int32) × (Nat → Int32))
  | 0, _, _, _ => none
  | k + 1, x4, s_typed, s_text =>
    pbr (x4 < 0)
      (some (s_typed, s_typed, s_text))
      (pgd (pin s_typed 400) (
      plt (upd s_text s_typed.toNatClampNeg (vp_nar .byte ((x1 >>> (((8 : Int32) * x4).toInt64 &&& 63)) &&& (255 : Int64)).toInt32.toInt8.toInt32) : Nat → Int32) (fun f_3 => (
      plt ((s_typed + (1 : Int32)) : Int32) (fun typed_4 => (
      plt (x4 + (-1 : Int32) : Int32) (fun x4_5 => (
      (f_X12_type_32 x1 x3 k) x4_5 typed_4 f_3))))))))

set_option maxRecDepth 100000 in
set_option maxHeartbeats 4000000 in
theorem k_X12_type_32 {p : Program} {l : Launch} {e : Env} {s : State} {m : MethodId} {args : Array Value} {below : List Frame} {meth : Method} {c : Code} {A : Nat → Prop} {D : va_G} {cA : Nat → ClassId} (C0 : MX p s m args meth c cX12_type 5 wsX12_type RX12 (some .int) D cA) (hA : ∀ q, s.heap.size ≤ q → A q) {a0 : Nat} {q_text : Nat} {q_depths : Nat} {q_tune : Nat} {q_far : Nat} {q_books : Nat} {q_told : Nat} {q_years : Nat} {q_months : Nat} {q_ring : Nat} {q_woods : Nat} {q_ends : Nat} {q_wood : Nat} {q_sheets : Nat} {q_marsh : Nat} {q_oldest : Nat} {q_youngest : Nat} {q_knowns : Nat} {q_known : Nat} {q_weight : Nat} {q_chance : Nat} {q_digs : Nat} {q_draft : Nat} {q_isKept : Nat} {s_trace : Int64} {s_earliest : Int32} {s_latest : Int32} {s_firstYear : Int32} {s_rings : Int32} {x1 : Int64} {x3 : Int32} {o_r : Int32} {o_typed : Int32} {o_text : Nat → Int32} : ∀ (k : Nat) (x4 : Int32) (s_typed : Int32) (s_text : Nat → Int32), f_X12_type_32 x1 x3 k x4 s_typed s_text = some (o_r, o_typed, o_text) → ∀ (H : Heap) (locs : List Loc), va_P D vwCl (w_X12_type a0 q_text q_depths q_tune q_far q_books q_told q_years q_months q_ring q_woods q_ends q_wood q_sheets q_marsh q_oldest q_youngest q_knowns q_known q_weight q_chance q_digs q_draft q_isKept cA s_trace s_typed s_earliest s_latest s_firstYear s_rings s_text) H → va_D A (w_X12_type a0 q_text q_depths q_tune q_far q_books q_told q_years q_months q_ring q_woods q_ends q_wood q_sheets q_marsh q_oldest q_youngest q_knowns q_known q_weight q_chance q_digs q_draft q_isKept cA s_trace s_typed s_earliest s_latest s_firstYear s_rings s_text) → va_S A s.heap H locs → ∀ ls : Array Slot, lv_has ls 5 [(0, .ref a0), (1, .long x1), (4, .int x4)] → W p l e rm_X12_type s m args below meth c H locs 0 0 (MQ below (CQ D (some (.int o_r)) (w_X12_type a0 q_text q_depths q_tune q_far q_books q_told q_years q_months q_ring q_woods q_ends q_wood q_sheets q_marsh q_oldest q_youngest q_knowns q_known q_weight q_chance q_digs q_draft q_isKept cA s_trace o_typed s_earliest s_latest s_firstYear s_rings o_text) A) args s 0 0 A) (F0 m 32 ls []) := by
  obtain ⟨hx, hb, hml, hown, hts, hr, hlocks, hX⟩ := C0
  have hK := hX.1
  have hN := hX.2
  intro k
  induction k with
  | zero =>
    intro x4 s_typed s_text hf
    cases hf
  | succ k ih =>
    intro x4 s_typed s_text hf H locs hP hD hS ls hl
    rw [f_X12_type_32] at hf
    refine lv_iload hx hb dX12_type_32 (lv_at hl 2 rfl) ?_
    refine lv_if_lt (tgt := 75) hx hb dX12_type_34 (by decide) (fun c_1 => ?_) (fun c_1 => ?_)
    · have hf := pbr_t c_1 hf
      refine lv_aload_n hx hb dX12_type_75 rfl (lv_at hl 0 rfl) ?_
      refine va_get (D := D) (ci := 12) (v := .int s_typed) (C := RX12) (T := TX12) (N := 29) hx hb hts hn_X12_type_X12 hown hK hP 0 rfl rfl 2 (by decide) (hts _ hw_X12_type_f90) (fun _ h9 => h9) rfl dX12_type_76 ?_
      obtain ⟨rfl, rfl, rfl⟩ := pe3 hf
      exact m_iret hx hb hr hlocks hP hS dX12_type_79
    have hf := pbr_f c_1 hf
    refine lv_aload_n hx hb dX12_type_37 rfl (lv_at hl 0 rfl) ?_
    refine va_get (D := D) (ci := 12) (v := .ref q_text) (C := RX12) (T := TX12) (N := 29) hx hb hts hn_X12_type_X12 hown hK hP 0 rfl rfl 1 (by decide) (hts _ hw_X12_type_f7) (fun _ h9 => h9) rfl dX12_type_38 ?_
    refine lv_aload_n hx hb dX12_type_41 rfl (lv_at hl 0 rfl) ?_
    refine va_get (D := D) (ci := 12) (v := .int s_typed) (C := RX12) (T := TX12) (N := 29) hx hb hts hn_X12_type_X12 hown hK hP 0 rfl rfl 2 (by decide) (hts _ hw_X12_type_f90) (fun _ h9 => h9) rfl dX12_type_42 ?_
    refine lv_lload_n hx hb dX12_type_45 rfl (lv_at hl 1 rfl) ?_
    refine lv_bipush (v := (8 : Int32)) hx hb dX12_type_46 (by decide) ?_
    refine lv_iload hx hb dX12_type_48 (lv_at hl 2 rfl) ?_
    refine lv_imul hx hb dX12_type_50 ?_
    refine lv_lshr hx hb dX12_type_51 rfl ?_
    refine lv_ldc2 (v := (255 : Int64)) hx hb hown (hts _ hw_X12_type_c93) dX12_type_52 ?_
    refine lv_land hx hb dX12_type_55 ?_
    refine lv_l2i hx hb dX12_type_56 rfl ?_
    refine lv_i2b hx hb dX12_type_57 rfl ?_
    obtain ⟨g_2, hf⟩ := pgd_e hf
    refine va_bast hx hb hK hP hD hS 1 0 rfl rfl g_2 dX12_type_58 (fun H locs hP hD hS => ?_)
    obtain ⟨f_3, ef_3⟩ : ∃ z : Nat → Int32, z = upd s_text s_typed.toNatClampNeg (vp_nar .byte ((x1 >>> (((8 : Int32) * x4).toInt64 &&& 63)) &&& (255 : Int64)).toInt32.toInt8.toInt32) := ⟨_, rfl⟩
    have hf := plt_e ef_3 hf
    have hP : va_P D vwCl (w_X12_type a0 q_text q_depths q_tune q_far q_books q_told q_years q_months q_ring q_woods q_ends q_wood q_sheets q_marsh q_oldest q_youngest q_knowns q_known q_weight q_chance q_digs q_draft q_isKept cA s_trace s_typed s_earliest s_latest s_firstYear s_rings f_3) H := by rw [ef_3]; exact hP
    have hD : va_D A (w_X12_type a0 q_text q_depths q_tune q_far q_books q_told q_years q_months q_ring q_woods q_ends q_wood q_sheets q_marsh q_oldest q_youngest q_knowns q_known q_weight q_chance q_digs q_draft q_isKept cA s_trace s_typed s_earliest s_latest s_firstYear s_rings f_3) := by rw [ef_3]; exact hD
    refine lv_aload_n hx hb dX12_type_59 rfl (lv_at hl 0 rfl) ?_
    refine lv_dup hx hb dX12_type_60 rfl ?_
    refine va_get (D := D) (ci := 12) (v := .int s_typed) (C := RX12) (T := TX12) (N := 29) hx hb hts hn_X12_type_X12 hown hK hP 0 rfl rfl 2 (by decide) (hts _ hw_X12_type_f90) (fun _ h9 => h9) rfl dX12_type_61 ?_
    refine lv_iconst (v := (1 : Int32)) hx hb dX12_type_64 (by decide) ?_
    refine lv_iadd hx hb dX12_type_65 ?_
    refine lv_topi (fun typed_4 etyped_4 => ?_)
    have hf := plt_e etyped_4 hf
    refine va_put (D := D) (ci := 12) (v := .int typed_4) (ty := .int) (C := RX12) (T := TX12) (N := 29) hx hb hts hn_X12_type_X12 tyX12 tyX12_ok nmX12 hown hK hP hD hS 0 rfl rfl 2 (by decide) (hts _ hw_X12_type_f90) (fun _ h9 => h9) rfl (by decide +kernel) rfl rfl (Nat.le_of_ble_eq_true rfl) dX12_type_66 (fun H locs hP hD hS => ?_)
    have hP : va_P D vwCl (w_X12_type a0 q_text q_depths q_tune q_far q_books q_told q_years q_months q_ring q_woods q_ends q_wood q_sheets q_marsh q_oldest q_youngest q_knowns q_known q_weight q_chance q_digs q_draft q_isKept cA s_trace typed_4 s_earliest s_latest s_firstYear s_rings f_3) H := hP
    have hD : va_D A (w_X12_type a0 q_text q_depths q_tune q_far q_books q_told q_years q_months q_ring q_woods q_ends q_wood q_sheets q_marsh q_oldest q_youngest q_knowns q_known q_weight q_chance q_digs q_draft q_isKept cA s_trace typed_4 s_earliest s_latest s_firstYear s_rings f_3) := hD
    obtain ⟨x4_5, ex4_5⟩ : ∃ z : Int32, z = x4 + (-1 : Int32) := ⟨_, rfl⟩
    have hf := plt_e ex4_5 hf
    refine lv_iinc (v := x4_5) (lv' := [(4, .int x4_5), (0, .ref a0), (1, .long x1)]) hx hb dX12_type_69 hl (k := 2) rfl (by rw [ex4_5]; rfl) (by decide) rfl (fun ls hl => ?_)
    refine lv_goto (tgt := 32) hx hb dX12_type_72 (by decide) ?_
    exact ih x4_5 typed_4 f_3 hf _ _ hP hD hS ls (lv_sub hl [1, 2, 0] rfl)

def f_X12_type (x1 : Int64) (x3 : Int32) (s_typed : Int32) (s_text : Nat → Int32) : Option ((Int32) × (Int32) × (Nat → Int32)) :=
  pcl (f_X12_in x3 (1 : Int32) (8 : Int32)) (fun r_1 => (
  pbr (r_1 = 0)
    (some ((-1 : Int32), s_typed, s_text))
    (pbr ((s_typed + x3) ≤ (400 : Int32))
      (plt ((x3 - (1 : Int32)) : Int32) (fun x4_5 => (
      f_X12_type_32 x1 x3 FU x4_5 s_typed s_text)))
      (some ((-3 : Int32), s_typed, s_text)))))

set_option maxRecDepth 100000 in
set_option maxHeartbeats 4000000 in
theorem ct_X12_type (l : Launch) (D : va_G) (cA : Nat → ClassId) (x1 : Int64) (x3 : Int32) (a0 : Nat) (q_text : Nat) (q_depths : Nat) (q_tune : Nat) (q_far : Nat) (q_books : Nat) (q_told : Nat) (q_years : Nat) (q_months : Nat) (q_ring : Nat) (q_woods : Nat) (q_ends : Nat) (q_wood : Nat) (q_sheets : Nat) (q_marsh : Nat) (q_oldest : Nat) (q_youngest : Nat) (q_knowns : Nat) (q_known : Nat) (q_weight : Nat) (q_chance : Nat) (q_digs : Nat) (q_draft : Nat) (q_isKept : Nat) (s_trace : Int64) (s_typed : Int32) (s_earliest : Int32) (s_latest : Int32) (s_firstYear : Int32) (s_rings : Int32) (s_text : Nat → Int32) (o_r : Int32) (o_typed : Int32) (o_text : Nat → Int32) (hf : f_X12_type x1 x3 s_typed s_text = some (o_r, o_typed, o_text)) : CT l yX12_type wsX12_type rm_X12_type D cA [.ref a0, .long x1, .int x3] (w_X12_type a0 q_text q_depths q_tune q_far q_books q_told q_years q_months q_ring q_woods q_ends q_wood q_sheets q_marsh q_oldest q_youngest q_knowns q_known q_weight q_chance q_digs q_draft q_isKept cA s_trace s_typed s_earliest s_latest s_firstYear s_rings s_text) (w_X12_type a0 q_text q_depths q_tune q_far q_books q_told q_years q_months q_ring q_woods q_ends q_wood q_sheets q_marsh q_oldest q_youngest q_knowns q_known q_weight q_chance q_digs q_draft q_isKept cA s_trace o_typed s_earliest s_latest s_firstYear s_rings o_text) (some (.int o_r)) := by
  refine CT.ofW (cc := cX12_type) (maxL := 5) (ret := (some .int)) (by decide +kernel) rfl (Nat.le_of_ble_eq_true rfl) ?_
  intro p e s m below meth c A C0 hA hP hD ls hl
  have C0 : MX p s m [.ref a0, .long x1, .int x3].toArray meth c cX12_type 5 wsX12_type RX12 (some .int) D cA := C0
  have hl : lv_has ls 5 [(0, .ref a0), (1, .long x1), (3, .int x3)] := hl
  obtain ⟨hx, hb, hml, hown, hts, hr, hlocks, hX⟩ := id C0
  have hK := hX.1
  have hN := hX.2
  have hS : va_S A s.heap s.heap [] := va_S.rf
  unfold f_X12_type at hf
  refine lv_iload_n hx hb dX12_type_0 rfl (lv_at hl 2 rfl) ?_
  refine lv_iconst (v := (1 : Int32)) hx hb dX12_type_1 (by decide) ?_
  refine lv_bipush (v := (8 : Int32)) hx hb dX12_type_2 (by decide) ?_
  obtain ⟨r_1, hc_2, hf⟩ := pcl_e hf
  refine m_callS2 (As := [.int x3, .int (1 : Int32), .int (8 : Int32)]) (rest := []) ⟨hx, hb, hml, hown, hts⟩ hX (ct_X12_in l D cA x3 (1 : Int32) (8 : Int32) r_1 hc_2) (va_cwS 3 hts gX12_type_X12_in rfl rfl rfl (by decide +kernel) ⟨Nat.le_of_ble_eq_true rfl, Nat.le_of_ble_eq_true rfl⟩) hP hD hS hA [] [0, 1] 2 (by decide) rfl rfl (WS' := (w_X12_type a0 q_text q_depths q_tune q_far q_books q_told q_years q_months q_ring q_woods q_ends q_wood q_sheets q_marsh q_oldest q_youngest q_knowns q_known q_weight q_chance q_digs q_draft q_isKept cA s_trace s_typed s_earliest s_latest s_firstYear s_rings s_text)) (WR := [(a0, .inr (12, [.long s_trace, .ref q_text, .int s_typed, .ref q_depths, .ref q_tune, .ref q_far, .ref q_books, .ref q_told, .int s_earliest, .int s_latest, .ref q_years, .ref q_months, .int s_firstYear, .int s_rings, .ref q_ring, .ref q_woods, .ref q_ends, .ref q_wood, .ref q_sheets, .ref q_marsh, .ref q_oldest, .ref q_youngest, .ref q_knowns, .ref q_known, .ref q_weight, .ref q_chance, .ref q_digs, .ref q_draft, .ref q_isKept])), (q_text, .inl (cA 0, 400, .inl s_text))]) rfl rfl rfl rfl (by decide) (by decide) rfl hl.1 rfl (st' := [.int r_1]) rfl (Nat.le_of_ble_eq_true rfl) ⟨Nat.zero_le _, Nat.zero_le _⟩ dX12_type_4 (fun H locs hP hD hS => ?_)
  refine lv_if_ne (tgt := 12) hx hb dX12_type_7 (by decide) (fun c_3 => ?_) (fun c_3 => ?_)
  · have hf := pbr_f c_3 hf
    refine lv_aload_n hx hb dX12_type_12 rfl (lv_at hl 0 rfl) ?_
    refine va_get (D := D) (ci := 12) (v := .int s_typed) (C := RX12) (T := TX12) (N := 29) hx hb hts hn_X12_type_X12 hown hK hP 0 rfl rfl 2 (by decide) (hts _ hw_X12_type_f90) (fun _ h9 => h9) rfl dX12_type_13 ?_
    refine lv_iload_n hx hb dX12_type_16 rfl (lv_at hl 2 rfl) ?_
    refine lv_iadd hx hb dX12_type_17 ?_
    refine lv_sipush (v := (400 : Int32)) hx hb dX12_type_18 (by decide) ?_
    refine lv_icmp_le (tgt := 27) hx hb dX12_type_21 (by decide) (fun c_4 => ?_) (fun c_4 => ?_)
    · have hf := pbr_t c_4 hf
      refine lv_iload_n hx hb dX12_type_27 rfl (lv_at hl 2 rfl) ?_
      refine lv_iconst (v := (1 : Int32)) hx hb dX12_type_28 (by decide) ?_
      refine lv_isub hx hb dX12_type_29 ?_
      refine lv_topi (fun x4_5 ex4_5 => ?_)
      have hf := plt_e ex4_5 hf
      refine lv_istore (lv' := [(4, .int x4_5), (0, .ref a0), (1, .long x1), (3, .int x3)]) hx hb dX12_type_30 hl (by decide) rfl (fun ls hl => ?_)
      exact k_X12_type_32 C0 hA FU x4_5 s_typed s_text hf _ _ hP hD hS ls (lv_sub hl [1, 2, 0] rfl)
    have hf := pbr_f c_4 hf
    refine lv_bipush (v := (-3 : Int32)) hx hb dX12_type_24 (by decide) ?_
    obtain ⟨rfl, rfl, rfl⟩ := pe3 hf
    exact m_iret hx hb hr hlocks hP hS dX12_type_26
  have hf := pbr_t c_3 hf
  refine lv_iconst (v := (-1 : Int32)) hx hb dX12_type_10 (by decide) ?_
  obtain ⟨rfl, rfl, rfl⟩ := pe3 hf
  exact m_iret hx hb hr hlocks hP hS dX12_type_11

/-! ===== OrphanWaveModel.clear()I ===== -/
abbrev rm_X12_clear : Room := { frames := 0, cells := 0, slots := 0, locals := 0 }
abbrev w_X12_clear (a0 : Nat) (q_text : Nat) (q_depths : Nat) (q_tune : Nat) (q_far : Nat) (q_books : Nat) (q_told : Nat) (q_years : Nat) (q_months : Nat) (q_ring : Nat) (q_woods : Nat) (q_ends : Nat) (q_wood : Nat) (q_sheets : Nat) (q_marsh : Nat) (q_oldest : Nat) (q_youngest : Nat) (q_knowns : Nat) (q_known : Nat) (q_weight : Nat) (q_chance : Nat) (q_digs : Nat) (q_draft : Nat) (q_isKept : Nat) (cA : Nat → ClassId) (s_trace : Int64) (s_typed : Int32) (s_earliest : Int32) (s_latest : Int32) (s_firstYear : Int32) (s_rings : Int32) : va_W := [(a0, .inr (12, [.long s_trace, .ref q_text, .int s_typed, .ref q_depths, .ref q_tune, .ref q_far, .ref q_books, .ref q_told, .int s_earliest, .int s_latest, .ref q_years, .ref q_months, .int s_firstYear, .int s_rings, .ref q_ring, .ref q_woods, .ref q_ends, .ref q_wood, .ref q_sheets, .ref q_marsh, .ref q_oldest, .ref q_youngest, .ref q_knowns, .ref q_known, .ref q_weight, .ref q_chance, .ref q_digs, .ref q_draft, .ref q_isKept]))]
theorem hn_X12_clear_X12 : ∀ w ∈ u_ws RX12 TX12 29, w ∈ wsX12_clear := by decide +kernel
theorem hw_X12_clear_f90 : Cond.fieldLink RX12 90 "OrphanWaveModel" "typed" "I" ∈ wsX12_clear := by decide +kernel

def f_X12_clear (s_typed : Int32) : Option ((Int32) × (Int32)) :=
  some (s_typed, (0 : Int32))

set_option maxRecDepth 100000 in
set_option maxHeartbeats 4000000 in
theorem ct_X12_clear (l : Launch) (D : va_G) (cA : Nat → ClassId) (a0 : Nat) (q_text : Nat) (q_depths : Nat) (q_tune : Nat) (q_far : Nat) (q_books : Nat) (q_told : Nat) (q_years : Nat) (q_months : Nat) (q_ring : Nat) (q_woods : Nat) (q_ends : Nat) (q_wood : Nat) (q_sheets : Nat) (q_marsh : Nat) (q_oldest : Nat) (q_youngest : Nat) (q_knowns : Nat) (q_known : Nat) (q_weight : Nat) (q_chance : Nat) (q_digs : Nat) (q_draft : Nat) (q_isKept : Nat) (s_trace : Int64) (s_typed : Int32) (s_earliest : Int32) (s_latest : Int32) (s_firstYear : Int32) (s_rings : Int32) (o_r : Int32) (o_typed : Int32) (hf : f_X12_clear s_typed = some (o_r, o_typed)) : CT l yX12_clear wsX12_clear rm_X12_clear D cA [.ref a0] (w_X12_clear a0 q_text q_depths q_tune q_far q_books q_told q_years q_months q_ring q_woods q_ends q_wood q_sheets q_marsh q_oldest q_youngest q_knowns q_known q_weight q_chance q_digs q_draft q_isKept cA s_trace s_typed s_earliest s_latest s_firstYear s_rings) (w_X12_clear a0 q_text q_depths q_tune q_far q_books q_told q_years q_months q_ring q_woods q_ends q_wood q_sheets q_marsh q_oldest q_youngest q_knowns q_known q_weight q_chance q_digs q_draft q_isKept cA s_trace o_typed s_earliest s_latest s_firstYear s_rings) (some (.int o_r)) := by
  refine CT.ofW (cc := cX12_clear) (maxL := 2) (ret := (some .int)) (by decide +kernel) rfl (Nat.le_of_ble_eq_true rfl) ?_
  intro p e s m below meth c A C0 hA hP hD ls hl
  have C0 : MX p s m [.ref a0].toArray meth c cX12_clear 2 wsX12_clear RX12 (some .int) D cA := C0
  have hl : lv_has ls 2 [(0, .ref a0)] := hl
  obtain ⟨hx, hb, hml, hown, hts, hr, hlocks, hX⟩ := id C0
  have hK := hX.1
  have hN := hX.2
  have hS : va_S A s.heap s.heap [] := va_S.rf
  unfold f_X12_clear at hf
  refine lv_aload_n hx hb dX12_clear_0 rfl (lv_at hl 0 rfl) ?_
  refine va_get (D := D) (ci := 12) (v := .int s_typed) (C := RX12) (T := TX12) (N := 29) hx hb hts hn_X12_clear_X12 hown hK hP 0 rfl rfl 2 (by decide) (hts _ hw_X12_clear_f90) (fun _ h9 => h9) rfl dX12_clear_1 ?_
  refine lv_istore_n (lv' := [(1, .int s_typed), (0, .ref a0)]) hx hb dX12_clear_4 rfl hl (by decide) rfl (fun ls hl => ?_)
  refine lv_aload_n hx hb dX12_clear_5 rfl (lv_at hl 1 rfl) ?_
  refine lv_iconst (v := (0 : Int32)) hx hb dX12_clear_6 (by decide) ?_
  refine va_put (D := D) (ci := 12) (v := .int (0 : Int32)) (ty := .int) (C := RX12) (T := TX12) (N := 29) hx hb hts hn_X12_clear_X12 tyX12 tyX12_ok nmX12 hown hK hP hD hS 0 rfl rfl 2 (by decide) (hts _ hw_X12_clear_f90) (fun _ h9 => h9) rfl (by decide +kernel) rfl rfl (Nat.le_of_ble_eq_true rfl) dX12_clear_7 (fun H locs hP hD hS => ?_)
  have hP : va_P D vwCl (w_X12_clear a0 q_text q_depths q_tune q_far q_books q_told q_years q_months q_ring q_woods q_ends q_wood q_sheets q_marsh q_oldest q_youngest q_knowns q_known q_weight q_chance q_digs q_draft q_isKept cA s_trace (0 : Int32) s_earliest s_latest s_firstYear s_rings) H := hP
  have hD : va_D A (w_X12_clear a0 q_text q_depths q_tune q_far q_books q_told q_years q_months q_ring q_woods q_ends q_wood q_sheets q_marsh q_oldest q_youngest q_knowns q_known q_weight q_chance q_digs q_draft q_isKept cA s_trace (0 : Int32) s_earliest s_latest s_firstYear s_rings) := hD
  refine lv_iload_n hx hb dX12_clear_10 rfl (lv_at hl 0 rfl) ?_
  obtain ⟨rfl, rfl⟩ := pe2 hf
  exact m_iret hx hb hr hlocks hP hS dX12_clear_11

/-! ===== OrphanWaveModel.sea()I ===== -/
abbrev rm_X12_sea : Room := { frames := 0, cells := 0, slots := 0, locals := 0 }
abbrev w_X12_sea (a0 : Nat) (q_depths : Nat) (q_text : Nat) (q_tune : Nat) (q_far : Nat) (q_books : Nat) (q_told : Nat) (q_years : Nat) (q_months : Nat) (q_ring : Nat) (q_woods : Nat) (q_ends : Nat) (q_wood : Nat) (q_sheets : Nat) (q_marsh : Nat) (q_oldest : Nat) (q_youngest : Nat) (q_knowns : Nat) (q_known : Nat) (q_weight : Nat) (q_chance : Nat) (q_digs : Nat) (q_draft : Nat) (q_isKept : Nat) (cA : Nat → ClassId) (s_trace : Int64) (s_typed : Int32) (s_earliest : Int32) (s_latest : Int32) (s_firstYear : Int32) (s_rings : Int32) (s_depths : Nat → Int32) : va_W := [(a0, .inr (12, [.long s_trace, .ref q_text, .int s_typed, .ref q_depths, .ref q_tune, .ref q_far, .ref q_books, .ref q_told, .int s_earliest, .int s_latest, .ref q_years, .ref q_months, .int s_firstYear, .int s_rings, .ref q_ring, .ref q_woods, .ref q_ends, .ref q_wood, .ref q_sheets, .ref q_marsh, .ref q_oldest, .ref q_youngest, .ref q_knowns, .ref q_known, .ref q_weight, .ref q_chance, .ref q_digs, .ref q_draft, .ref q_isKept])), (q_depths, .inl (cA 1, 96, .inl s_depths))]
theorem hn_X12_sea_X12 : ∀ w ∈ u_ws RX12 TX12 29, w ∈ wsX12_sea := by decide +kernel
theorem hw_X12_sea_f13 : Cond.fieldLink RX12 13 "OrphanWaveModel" "depths" "[I" ∈ wsX12_sea := by decide +kernel

def f_X12_sea_25 (r4 : (Int32) → (Int32) → Option ((Int32))) (s_depths : Nat → Int32) (x2 : Int32) (z0 : Int32) (z1 : Int32) : Option ((Int32)) :=
  plt ((z0 + z1) : Int32) (fun x1_1 => (
  plt (x2 + (1 : Int32) : Int32) (fun x2_2 => (
  r4 x1_1 x2_2))))

set_option maxRecDepth 100000 in
set_option maxHeartbeats 4000000 in
theorem k_X12_sea_25 {p : Program} {l : Launch} {e : Env} {s : State} {m : MethodId} {args : Array Value} {below : List Frame} {meth : Method} {c : Code} {A : Nat → Prop} {D : va_G} {cA : Nat → ClassId} (C0 : MX p s m args meth c cX12_sea 3 wsX12_sea RX12 (some .int) D cA) (hA : ∀ q, s.heap.size ≤ q → A q) {a0 : Nat} {q_depths : Nat} {q_text : Nat} {q_tune : Nat} {q_far : Nat} {q_books : Nat} {q_told : Nat} {q_years : Nat} {q_months : Nat} {q_ring : Nat} {q_woods : Nat} {q_ends : Nat} {q_wood : Nat} {q_sheets : Nat} {q_marsh : Nat} {q_oldest : Nat} {q_youngest : Nat} {q_knowns : Nat} {q_known : Nat} {q_weight : Nat} {q_chance : Nat} {q_digs : Nat} {q_draft : Nat} {q_isKept : Nat} {s_trace : Int64} {s_typed : Int32} {s_earliest : Int32} {s_latest : Int32} {s_firstYear : Int32} {s_rings : Int32} {s_depths : Nat → Int32} {o_r : Int32} {r4 : (Int32) → (Int32) → Option ((Int32))} (hr4 : ∀ (x1 : Int32) (x2 : Int32), r4 x1 x2 = some o_r → ∀ (H : Heap) (locs : List Loc), va_P D vwCl (w_X12_sea a0 q_depths q_text q_tune q_far q_books q_told q_years q_months q_ring q_woods q_ends q_wood q_sheets q_marsh q_oldest q_youngest q_knowns q_known q_weight q_chance q_digs q_draft q_isKept cA s_trace s_typed s_earliest s_latest s_firstYear s_rings s_depths) H → va_D A (w_X12_sea a0 q_depths q_text q_tune q_far q_books q_told q_years q_months q_ring q_woods q_ends q_wood q_sheets q_marsh q_oldest q_youngest q_knowns q_known q_weight q_chance q_digs q_draft q_isKept cA s_trace s_typed s_earliest s_latest s_firstYear s_rings s_depths) → va_S A s.heap H locs → ∀ ls : Array Slot, lv_has ls 3 [(0, .ref a0), (1, .int x1), (2, .int x2)] → W p l e rm_X12_sea s m args below meth c H locs 0 0 (MQ below (CQ D (some (.int o_r)) (w_X12_sea a0 q_depths q_text q_tune q_far q_books q_told q_years q_months q_ring q_woods q_ends q_wood q_sheets q_marsh q_oldest q_youngest q_knowns q_known q_weight q_chance q_digs q_draft q_isKept cA s_trace s_typed s_earliest s_latest s_firstYear s_rings s_depths) A) args s 0 0 A) (F0 m 4 ls [])) : ∀ (x2 : Int32) (z0 : Int32) (z1 : Int32), f_X12_sea_25 r4 s_depths x2 z0 z1 = some o_r → ∀ (H : Heap) (locs : List Loc), va_P D vwCl (w_X12_sea a0 q_depths q_text q_tune q_far q_books q_told q_years q_months q_ring q_woods q_ends q_wood q_sheets q_marsh q_oldest q_youngest q_knowns q_known q_weight q_chance q_digs q_draft q_isKept cA s_trace s_typed s_earliest s_latest s_firstYear s_rings s_depths) H → va_D A (w_X12_sea a0 q_depths q_text q_tune q_far q_books q_told q_years q_months q_ring q_woods q_ends q_wood q_sheets q_marsh q_oldest q_youngest q_knowns q_known q_weight q_chance q_digs q_draft q_isKept cA s_trace s_typed s_earliest s_latest s_firstYear s_rings s_depths) → va_S A s.heap H locs → ∀ ls : Array Slot, lv_has ls 3 [(0, .ref a0), (2, .int x2)] → W p l e rm_X12_sea s m args below meth c H locs 0 0 (MQ below (CQ D (some (.int o_r)) (w_X12_sea a0 q_depths q_text q_tune q_far q_books q_told q_years q_months q_ring q_woods q_ends q_wood q_sheets q_marsh q_oldest q_youngest q_knowns q_known q_weight q_chance q_digs q_draft q_isKept cA s_trace s_typed s_earliest s_latest s_firstYear s_rings s_depths) A) args s 0 0 A) (F0 m 25 ls [.int z1, .int z0]) := by
  obtain ⟨hx, hb, hml, hown, hts, hr, hlocks, hX⟩ := C0
  have hK := hX.1
  have hN := hX.2
  intro x2 z0 z1 hf H locs hP hD hS ls hl
  unfold f_X12_sea_25 at hf
  refine lv_iadd hx hb dX12_sea_25 ?_
  refine lv_topi (fun x1_1 ex1_1 => ?_)
  have hf := plt_e ex1_1 hf
  refine lv_istore_n (lv' := [(1, .int x1_1), (0, .ref a0), (2, .int x2)]) hx hb dX12_sea_26 rfl hl (by decide) rfl (fun ls hl => ?_)
  obtain ⟨x2_2, ex2_2⟩ : ∃ z : Int32, z = x2 + (1 : Int32) := ⟨_, rfl⟩
  have hf := plt_e ex2_2 hf
  refine lv_iinc (v := x2_2) (lv' := [(2, .int x2_2), (1, .int x1_1), (0, .ref a0)]) hx hb dX12_sea_27 hl (k := 2) rfl (by rw [ex2_2]; rfl) (by decide) rfl (fun ls hl => ?_)
  refine lv_goto (tgt := 4) hx hb dX12_sea_30 (by decide) ?_
  exact hr4 x1_1 x2_2 hf _ _ hP hD hS ls (lv_sub hl [2, 1, 0] rfl)

def f_X12_sea_4 (s_depths : Nat → Int32) : Nat → (Int32) → (Int32) → Option ((Int32))
  | 0, _, _ => none
  | k + 1, x1, x2 =>
    pbr ((48 : Int32) ≤ x2)
      (some (x1))
      (pgd (pin x2 96) (
      pbr ((s_depths x2.toNatClampNeg) ≤ 0)
        (f_X12_sea_25 (f_X12_sea_4 s_depths k) s_depths x2 x1 (0 : Int32))
        (f_X12_sea_25 (f_X12_sea_4 s_depths k) s_depths x2 x1 (1 : Int32))))

set_option maxRecDepth 100000 in
set_option maxHeartbeats 4000000 in
theorem k_X12_sea_4 {p : Program} {l : Launch} {e : Env} {s : State} {m : MethodId} {args : Array Value} {below : List Frame} {meth : Method} {c : Code} {A : Nat → Prop} {D : va_G} {cA : Nat → ClassId} (C0 : MX p s m args meth c cX12_sea 3 wsX12_sea RX12 (some .int) D cA) (hA : ∀ q, s.heap.size ≤ q → A q) {a0 : Nat} {q_depths : Nat} {q_text : Nat} {q_tune : Nat} {q_far : Nat} {q_books : Nat} {q_told : Nat} {q_years : Nat} {q_months : Nat} {q_ring : Nat} {q_woods : Nat} {q_ends : Nat} {q_wood : Nat} {q_sheets : Nat} {q_marsh : Nat} {q_oldest : Nat} {q_youngest : Nat} {q_knowns : Nat} {q_known : Nat} {q_weight : Nat} {q_chance : Nat} {q_digs : Nat} {q_draft : Nat} {q_isKept : Nat} {s_trace : Int64} {s_typed : Int32} {s_earliest : Int32} {s_latest : Int32} {s_firstYear : Int32} {s_rings : Int32} {s_depths : Nat → Int32} {o_r : Int32} : ∀ (k : Nat) (x1 : Int32) (x2 : Int32), f_X12_sea_4 s_depths k x1 x2 = some o_r → ∀ (H : Heap) (locs : List Loc), va_P D vwCl (w_X12_sea a0 q_depths q_text q_tune q_far q_books q_told q_years q_months q_ring q_woods q_ends q_wood q_sheets q_marsh q_oldest q_youngest q_knowns q_known q_weight q_chance q_digs q_draft q_isKept cA s_trace s_typed s_earliest s_latest s_firstYear s_rings s_depths) H → va_D A (w_X12_sea a0 q_depths q_text q_tune q_far q_books q_told q_years q_months q_ring q_woods q_ends q_wood q_sheets q_marsh q_oldest q_youngest q_knowns q_known q_weight q_chance q_digs q_draft q_isKept cA s_trace s_typed s_earliest s_latest s_firstYear s_rings s_depths) → va_S A s.heap H locs → ∀ ls : Array Slot, lv_has ls 3 [(0, .ref a0), (1, .int x1), (2, .int x2)] → W p l e rm_X12_sea s m args below meth c H locs 0 0 (MQ below (CQ D (some (.int o_r)) (w_X12_sea a0 q_depths q_text q_tune q_far q_books q_told q_years q_months q_ring q_woods q_ends q_wood q_sheets q_marsh q_oldest q_youngest q_knowns q_known q_weight q_chance q_digs q_draft q_isKept cA s_trace s_typed s_earliest s_latest s_firstYear s_rings s_depths) A) args s 0 0 A) (F0 m 4 ls []) := by
  obtain ⟨hx, hb, hml, hown, hts, hr, hlocks, hX⟩ := C0
  have hK := hX.1
  have hN := hX.2
  intro k
  induction k with
  | zero =>
    intro x1 x2 hf
    cases hf
  | succ k ih =>
    intro x1 x2 hf H locs hP hD hS ls hl
    rw [f_X12_sea_4] at hf
    refine lv_iload_n hx hb dX12_sea_4 rfl (lv_at hl 2 rfl) ?_
    refine lv_bipush (v := (48 : Int32)) hx hb dX12_sea_5 (by decide) ?_
    refine lv_icmp_ge (tgt := 33) hx hb dX12_sea_7 (by decide) (fun c_1 => ?_) (fun c_1 => ?_)
    · have hf := pbr_t c_1 hf
      refine lv_iload_n hx hb dX12_sea_33 rfl (lv_at hl 1 rfl) ?_
      obtain rfl := pe1 hf
      exact m_iret hx hb hr hlocks hP hS dX12_sea_34
    have hf := pbr_f c_1 hf
    refine lv_iload_n hx hb dX12_sea_10 rfl (lv_at hl 1 rfl) ?_
    refine lv_aload_n hx hb dX12_sea_11 rfl (lv_at hl 0 rfl) ?_
    refine va_get (D := D) (ci := 12) (v := .ref q_depths) (C := RX12) (T := TX12) (N := 29) hx hb hts hn_X12_sea_X12 hown hK hP 0 rfl rfl 3 (by decide) (hts _ hw_X12_sea_f13) (fun _ h9 => h9) rfl dX12_sea_12 ?_
    refine lv_iload_n hx hb dX12_sea_15 rfl (lv_at hl 2 rfl) ?_
    obtain ⟨g_2, hf⟩ := pgd_e hf
    refine va_iald hx hb hK hP 1 1 rfl rfl g_2 dX12_sea_16 ?_
    refine lv_if_le (tgt := 24) hx hb dX12_sea_17 (by decide) (fun c_3 => ?_) (fun c_3 => ?_)
    · have hf := pbr_t c_3 hf
      refine lv_iconst (v := (0 : Int32)) hx hb dX12_sea_24 (by decide) ?_
      exact k_X12_sea_25 ⟨hx, hb, hml, hown, hts, hr, hlocks, hX⟩ hA ih x2 x1 (0 : Int32) hf _ _ hP hD hS ls (lv_sub hl [0, 2] rfl)
    have hf := pbr_f c_3 hf
    refine lv_iconst (v := (1 : Int32)) hx hb dX12_sea_20 (by decide) ?_
    refine lv_goto (tgt := 25) hx hb dX12_sea_21 (by decide) ?_
    exact k_X12_sea_25 ⟨hx, hb, hml, hown, hts, hr, hlocks, hX⟩ hA ih x2 x1 (1 : Int32) hf _ _ hP hD hS ls (lv_sub hl [0, 2] rfl)

def f_X12_sea (s_depths : Nat → Int32) : Option ((Int32)) :=
  f_X12_sea_4 s_depths FU (0 : Int32) (0 : Int32)

set_option maxRecDepth 100000 in
set_option maxHeartbeats 4000000 in
theorem ct_X12_sea (l : Launch) (D : va_G) (cA : Nat → ClassId) (a0 : Nat) (q_depths : Nat) (q_text : Nat) (q_tune : Nat) (q_far : Nat) (q_books : Nat) (q_told : Nat) (q_years : Nat) (q_months : Nat) (q_ring : Nat) (q_woods : Nat) (q_ends : Nat) (q_wood : Nat) (q_sheets : Nat) (q_marsh : Nat) (q_oldest : Nat) (q_youngest : Nat) (q_knowns : Nat) (q_known : Nat) (q_weight : Nat) (q_chance : Nat) (q_digs : Nat) (q_draft : Nat) (q_isKept : Nat) (s_trace : Int64) (s_typed : Int32) (s_earliest : Int32) (s_latest : Int32) (s_firstYear : Int32) (s_rings : Int32) (s_depths : Nat → Int32) (o_r : Int32) (hf : f_X12_sea s_depths = some o_r) : CT l yX12_sea wsX12_sea rm_X12_sea D cA [.ref a0] (w_X12_sea a0 q_depths q_text q_tune q_far q_books q_told q_years q_months q_ring q_woods q_ends q_wood q_sheets q_marsh q_oldest q_youngest q_knowns q_known q_weight q_chance q_digs q_draft q_isKept cA s_trace s_typed s_earliest s_latest s_firstYear s_rings s_depths) (w_X12_sea a0 q_depths q_text q_tune q_far q_books q_told q_years q_months q_ring q_woods q_ends q_wood q_sheets q_marsh q_oldest q_youngest q_knowns q_known q_weight q_chance q_digs q_draft q_isKept cA s_trace s_typed s_earliest s_latest s_firstYear s_rings s_depths) (some (.int o_r)) := by
  refine CT.ofW (cc := cX12_sea) (maxL := 3) (ret := (some .int)) (by decide +kernel) rfl (Nat.le_of_ble_eq_true rfl) ?_
  intro p e s m below meth c A C0 hA hP hD ls hl
  have C0 : MX p s m [.ref a0].toArray meth c cX12_sea 3 wsX12_sea RX12 (some .int) D cA := C0
  have hl : lv_has ls 3 [(0, .ref a0)] := hl
  obtain ⟨hx, hb, hml, hown, hts, hr, hlocks, hX⟩ := id C0
  have hK := hX.1
  have hN := hX.2
  have hS : va_S A s.heap s.heap [] := va_S.rf
  unfold f_X12_sea at hf
  refine lv_iconst (v := (0 : Int32)) hx hb dX12_sea_0 (by decide) ?_
  refine lv_istore_n (lv' := [(1, .int (0 : Int32)), (0, .ref a0)]) hx hb dX12_sea_1 rfl hl (by decide) rfl (fun ls hl => ?_)
  refine lv_iconst (v := (0 : Int32)) hx hb dX12_sea_2 (by decide) ?_
  refine lv_istore_n (lv' := [(2, .int (0 : Int32)), (1, .int (0 : Int32)), (0, .ref a0)]) hx hb dX12_sea_3 rfl hl (by decide) rfl (fun ls hl => ?_)
  exact k_X12_sea_4 C0 hA FU (0 : Int32) (0 : Int32) hf _ _ hP hD hS ls (lv_sub hl [2, 1, 0] rfl)

/-! ===== OrphanWaveModel.ocean()I ===== -/
abbrev rm_X12_ocean : Room := { frames := 1, cells := 0, slots := 0, locals := 22 }
abbrev w_X12_ocean (a0 : Nat) (q_text : Nat) (q_depths : Nat) (q_tune : Nat) (q_far : Nat) (q_books : Nat) (q_told : Nat) (q_years : Nat) (q_months : Nat) (q_ring : Nat) (q_woods : Nat) (q_ends : Nat) (q_wood : Nat) (q_sheets : Nat) (q_marsh : Nat) (q_oldest : Nat) (q_youngest : Nat) (q_knowns : Nat) (q_known : Nat) (q_weight : Nat) (q_chance : Nat) (q_digs : Nat) (q_draft : Nat) (q_isKept : Nat) (cA : Nat → ClassId) (s_trace : Int64) (s_typed : Int32) (s_earliest : Int32) (s_latest : Int32) (s_firstYear : Int32) (s_rings : Int32) (s_text : Nat → Int32) (s_depths : Nat → Int32) : va_W := [(a0, .inr (12, [.long s_trace, .ref q_text, .int s_typed, .ref q_depths, .ref q_tune, .ref q_far, .ref q_books, .ref q_told, .int s_earliest, .int s_latest, .ref q_years, .ref q_months, .int s_firstYear, .int s_rings, .ref q_ring, .ref q_woods, .ref q_ends, .ref q_wood, .ref q_sheets, .ref q_marsh, .ref q_oldest, .ref q_youngest, .ref q_knowns, .ref q_known, .ref q_weight, .ref q_chance, .ref q_digs, .ref q_draft, .ref q_isKept])), (q_text, .inl (cA 0, 400, .inl s_text)), (q_depths, .inl (cA 1, 96, .inl s_depths))]
theorem hn_X12_ocean_X12 : ∀ w ∈ u_ws RX12 TX12 29, w ∈ wsX12_ocean := by decide +kernel
theorem hw_X12_ocean_f90 : Cond.fieldLink RX12 90 "OrphanWaveModel" "typed" "I" ∈ wsX12_ocean := by decide +kernel
theorem hw_X12_ocean_f7 : Cond.fieldLink RX12 7 "OrphanWaveModel" "text" "[B" ∈ wsX12_ocean := by decide +kernel
theorem hw_X12_ocean_f13 : Cond.fieldLink RX12 13 "OrphanWaveModel" "depths" "[I" ∈ wsX12_ocean := by decide +kernel

def f_X12_ocean_186 (s_text : Nat → Int32) : Nat → (Int32) → (Int32) → (Nat → Int32) → Option ((Int32) × (Int32) × (Nat → Int32))
  | 0, _, _, _ => none
  | k + 1, x3, s_typed, s_depths =>
    pbr ((48 : Int32) ≤ x3)
      (pcl (f_X12_sea s_depths) (fun r_2 => (
      some (r_2, (0 : Int32), s_depths))))
      (pgd (pin ((48 : Int32) + x3) 96) (
      pgd (pin x3 96) (
      plt (upd s_depths x3.toNatClampNeg (s_depths ((48 : Int32) + x3).toNatClampNeg) : Nat → Int32) (fun f_6 => (
      plt (x3 + (1 : Int32) : Int32) (fun x3_7 => (
      (f_X12_ocean_186 s_text k) x3_7 s_typed f_6)))))))

set_option maxRecDepth 100000 in
set_option maxHeartbeats 4000000 in
theorem k_X12_ocean_186 {p : Program} {l : Launch} {e : Env} {s : State} {m : MethodId} {args : Array Value} {below : List Frame} {meth : Method} {c : Code} {A : Nat → Prop} {D : va_G} {cA : Nat → ClassId} (C0 : MX p s m args meth c cX12_ocean 7 wsX12_ocean RX12 (some .int) D cA) (hA : ∀ q, s.heap.size ≤ q → A q) {a0 : Nat} {q_text : Nat} {q_depths : Nat} {q_tune : Nat} {q_far : Nat} {q_books : Nat} {q_told : Nat} {q_years : Nat} {q_months : Nat} {q_ring : Nat} {q_woods : Nat} {q_ends : Nat} {q_wood : Nat} {q_sheets : Nat} {q_marsh : Nat} {q_oldest : Nat} {q_youngest : Nat} {q_knowns : Nat} {q_known : Nat} {q_weight : Nat} {q_chance : Nat} {q_digs : Nat} {q_draft : Nat} {q_isKept : Nat} {s_trace : Int64} {s_earliest : Int32} {s_latest : Int32} {s_firstYear : Int32} {s_rings : Int32} {s_text : Nat → Int32} {o_r : Int32} {o_typed : Int32} {o_depths : Nat → Int32} : ∀ (k : Nat) (x3 : Int32) (s_typed : Int32) (s_depths : Nat → Int32), f_X12_ocean_186 s_text k x3 s_typed s_depths = some (o_r, o_typed, o_depths) → ∀ (H : Heap) (locs : List Loc), va_P D vwCl (w_X12_ocean a0 q_text q_depths q_tune q_far q_books q_told q_years q_months q_ring q_woods q_ends q_wood q_sheets q_marsh q_oldest q_youngest q_knowns q_known q_weight q_chance q_digs q_draft q_isKept cA s_trace s_typed s_earliest s_latest s_firstYear s_rings s_text s_depths) H → va_D A (w_X12_ocean a0 q_text q_depths q_tune q_far q_books q_told q_years q_months q_ring q_woods q_ends q_wood q_sheets q_marsh q_oldest q_youngest q_knowns q_known q_weight q_chance q_digs q_draft q_isKept cA s_trace s_typed s_earliest s_latest s_firstYear s_rings s_text s_depths) → va_S A s.heap H locs → ∀ ls : Array Slot, lv_has ls 7 [(0, .ref a0), (3, .int x3)] → W p l e rm_X12_ocean s m args below meth c H locs 0 0 (MQ below (CQ D (some (.int o_r)) (w_X12_ocean a0 q_text q_depths q_tune q_far q_books q_told q_years q_months q_ring q_woods q_ends q_wood q_sheets q_marsh q_oldest q_youngest q_knowns q_known q_weight q_chance q_digs q_draft q_isKept cA s_trace o_typed s_earliest s_latest s_firstYear s_rings s_text o_depths) A) args s 0 0 A) (F0 m 186 ls []) := by
  obtain ⟨hx, hb, hml, hown, hts, hr, hlocks, hX⟩ := C0
  have hK := hX.1
  have hN := hX.2
  intro k
  induction k with
  | zero =>
    intro x3 s_typed s_depths hf
    cases hf
  | succ k ih =>
    intro x3 s_typed s_depths hf H locs hP hD hS ls hl
    rw [f_X12_ocean_186] at hf
    refine lv_iload_n hx hb dX12_ocean_186 rfl (lv_at hl 1 rfl) ?_
    refine lv_bipush (v := (48 : Int32)) hx hb dX12_ocean_187 (by decide) ?_
    refine lv_icmp_ge (tgt := 213) hx hb dX12_ocean_189 (by decide) (fun c_1 => ?_) (fun c_1 => ?_)
    · have hf := pbr_t c_1 hf
      refine lv_aload_n hx hb dX12_ocean_213 rfl (lv_at hl 0 rfl) ?_
      refine lv_iconst (v := (0 : Int32)) hx hb dX12_ocean_214 (by decide) ?_
      refine va_put (D := D) (ci := 12) (v := .int (0 : Int32)) (ty := .int) (C := RX12) (T := TX12) (N := 29) hx hb hts hn_X12_ocean_X12 tyX12 tyX12_ok nmX12 hown hK hP hD hS 0 rfl rfl 2 (by decide) (hts _ hw_X12_ocean_f90) (fun _ h9 => h9) rfl (by decide +kernel) rfl rfl (Nat.le_of_ble_eq_true rfl) dX12_ocean_215 (fun H locs hP hD hS => ?_)
      have hP : va_P D vwCl (w_X12_ocean a0 q_text q_depths q_tune q_far q_books q_told q_years q_months q_ring q_woods q_ends q_wood q_sheets q_marsh q_oldest q_youngest q_knowns q_known q_weight q_chance q_digs q_draft q_isKept cA s_trace (0 : Int32) s_earliest s_latest s_firstYear s_rings s_text s_depths) H := hP
      have hD : va_D A (w_X12_ocean a0 q_text q_depths q_tune q_far q_books q_told q_years q_months q_ring q_woods q_ends q_wood q_sheets q_marsh q_oldest q_youngest q_knowns q_known q_weight q_chance q_digs q_draft q_isKept cA s_trace (0 : Int32) s_earliest s_latest s_firstYear s_rings s_text s_depths) := hD
      refine lv_aload_n hx hb dX12_ocean_218 rfl (lv_at hl 0 rfl) ?_
      obtain ⟨r_2, hc_3, hf⟩ := pcl_e hf
      refine m_callV2 (As := []) (rest := []) ⟨hx, hb, hml, hown, hts⟩ hX (ct_X12_sea l D cA a0 q_depths q_text q_tune q_far q_books q_told q_years q_months q_ring q_woods q_ends q_wood q_sheets q_marsh q_oldest q_youngest q_knowns q_known q_weight q_chance q_digs q_draft q_isKept s_trace (0 : Int32) s_earliest s_latest s_firstYear s_rings s_depths r_2 hc_3) (cwV 0 hts gX12_ocean_X12_sea rfl rfl rfl (by decide +kernel) ⟨Nat.le_of_ble_eq_true rfl, Nat.le_of_ble_eq_true rfl⟩) hP hD hS hA [0, 2] [1] 3 (by decide) rfl rfl (WS' := (w_X12_ocean a0 q_text q_depths q_tune q_far q_books q_told q_years q_months q_ring q_woods q_ends q_wood q_sheets q_marsh q_oldest q_youngest q_knowns q_known q_weight q_chance q_digs q_draft q_isKept cA s_trace (0 : Int32) s_earliest s_latest s_firstYear s_rings s_text s_depths)) (WR := [(q_text, .inl (cA 0, 400, .inl s_text))]) rfl rfl rfl rfl (by decide) (by decide) 0 12 rfl rfl rfl hl.1 rfl (st' := [.int r_2]) rfl (Nat.le_of_ble_eq_true rfl) ⟨Nat.zero_le _, Nat.zero_le _⟩ dX12_ocean_219 (fun H locs hP hD hS => ?_)
      obtain ⟨rfl, rfl, rfl⟩ := pe3 hf
      exact m_iret hx hb hr hlocks hP hS dX12_ocean_222
    have hf := pbr_f c_1 hf
    refine lv_aload_n hx hb dX12_ocean_192 rfl (lv_at hl 0 rfl) ?_
    refine va_get (D := D) (ci := 12) (v := .ref q_depths) (C := RX12) (T := TX12) (N := 29) hx hb hts hn_X12_ocean_X12 hown hK hP 0 rfl rfl 3 (by decide) (hts _ hw_X12_ocean_f13) (fun _ h9 => h9) rfl dX12_ocean_193 ?_
    refine lv_iload_n hx hb dX12_ocean_196 rfl (lv_at hl 1 rfl) ?_
    refine lv_aload_n hx hb dX12_ocean_197 rfl (lv_at hl 0 rfl) ?_
    refine va_get (D := D) (ci := 12) (v := .ref q_depths) (C := RX12) (T := TX12) (N := 29) hx hb hts hn_X12_ocean_X12 hown hK hP 0 rfl rfl 3 (by decide) (hts _ hw_X12_ocean_f13) (fun _ h9 => h9) rfl dX12_ocean_198 ?_
    refine lv_bipush (v := (48 : Int32)) hx hb dX12_ocean_201 (by decide) ?_
    refine lv_iload_n hx hb dX12_ocean_203 rfl (lv_at hl 1 rfl) ?_
    refine lv_iadd hx hb dX12_ocean_204 ?_
    obtain ⟨g_4, hf⟩ := pgd_e hf
    refine va_iald hx hb hK hP 2 1 rfl rfl g_4 dX12_ocean_205 ?_
    obtain ⟨g_5, hf⟩ := pgd_e hf
    refine va_iast hx hb hK hP hD hS 2 1 rfl rfl g_5 dX12_ocean_206 (fun H locs hP hD hS => ?_)
    obtain ⟨f_6, ef_6⟩ : ∃ z : Nat → Int32, z = upd s_depths x3.toNatClampNeg (s_depths ((48 : Int32) + x3).toNatClampNeg) := ⟨_, rfl⟩
    have hf := plt_e ef_6 hf
    have hP : va_P D vwCl (w_X12_ocean a0 q_text q_depths q_tune q_far q_books q_told q_years q_months q_ring q_woods q_ends q_wood q_sheets q_marsh q_oldest q_youngest q_knowns q_known q_weight q_chance q_digs q_draft q_isKept cA s_trace s_typed s_earliest s_latest s_firstYear s_rings s_text f_6) H := by rw [ef_6]; exact hP
    have hD : va_D A (w_X12_ocean a0 q_text q_depths q_tune q_far q_books q_told q_years q_months q_ring q_woods q_ends q_wood q_sheets q_marsh q_oldest q_youngest q_knowns q_known q_weight q_chance q_digs q_draft q_isKept cA s_trace s_typed s_earliest s_latest s_firstYear s_rings s_text f_6) := by rw [ef_6]; exact hD
    obtain ⟨x3_7, ex3_7⟩ : ∃ z : Int32, z = x3 + (1 : Int32) := ⟨_, rfl⟩
    have hf := plt_e ex3_7 hf
    refine lv_iinc (v := x3_7) (lv' := [(3, .int x3_7), (0, .ref a0)]) hx hb dX12_ocean_207 hl (k := 1) rfl (by rw [ex3_7]; rfl) (by decide) rfl (fun ls hl => ?_)
    refine lv_goto (tgt := 186) hx hb dX12_ocean_210 (by decide) ?_
    exact ih x3_7 s_typed f_6 hf _ _ hP hD hS ls (lv_sub hl [1, 0] rfl)

def f_X12_ocean_172 (s_text : Nat → Int32) (z0 : Int32) (s_typed : Int32) (s_depths : Nat → Int32) : Option ((Int32) × (Int32) × (Nat → Int32)) :=
  pbr (z0 = (-9 : Int32))
    (f_X12_ocean_186 s_text FU (0 : Int32) s_typed s_depths)
    (some (((-10 : Int32) - z0), s_typed, s_depths))

set_option maxRecDepth 100000 in
set_option maxHeartbeats 4000000 in
theorem k_X12_ocean_172 {p : Program} {l : Launch} {e : Env} {s : State} {m : MethodId} {args : Array Value} {below : List Frame} {meth : Method} {c : Code} {A : Nat → Prop} {D : va_G} {cA : Nat → ClassId} (C0 : MX p s m args meth c cX12_ocean 7 wsX12_ocean RX12 (some .int) D cA) (hA : ∀ q, s.heap.size ≤ q → A q) {a0 : Nat} {q_text : Nat} {q_depths : Nat} {q_tune : Nat} {q_far : Nat} {q_books : Nat} {q_told : Nat} {q_years : Nat} {q_months : Nat} {q_ring : Nat} {q_woods : Nat} {q_ends : Nat} {q_wood : Nat} {q_sheets : Nat} {q_marsh : Nat} {q_oldest : Nat} {q_youngest : Nat} {q_knowns : Nat} {q_known : Nat} {q_weight : Nat} {q_chance : Nat} {q_digs : Nat} {q_draft : Nat} {q_isKept : Nat} {s_trace : Int64} {s_earliest : Int32} {s_latest : Int32} {s_firstYear : Int32} {s_rings : Int32} {s_text : Nat → Int32} {o_r : Int32} {o_typed : Int32} {o_depths : Nat → Int32} : ∀ (z0 : Int32) (s_typed : Int32) (s_depths : Nat → Int32), f_X12_ocean_172 s_text z0 s_typed s_depths = some (o_r, o_typed, o_depths) → ∀ (H : Heap) (locs : List Loc), va_P D vwCl (w_X12_ocean a0 q_text q_depths q_tune q_far q_books q_told q_years q_months q_ring q_woods q_ends q_wood q_sheets q_marsh q_oldest q_youngest q_knowns q_known q_weight q_chance q_digs q_draft q_isKept cA s_trace s_typed s_earliest s_latest s_firstYear s_rings s_text s_depths) H → va_D A (w_X12_ocean a0 q_text q_depths q_tune q_far q_books q_told q_years q_months q_ring q_woods q_ends q_wood q_sheets q_marsh q_oldest q_youngest q_knowns q_known q_weight q_chance q_digs q_draft q_isKept cA s_trace s_typed s_earliest s_latest s_firstYear s_rings s_text s_depths) → va_S A s.heap H locs → ∀ ls : Array Slot, lv_has ls 7 [(0, .ref a0)] → W p l e rm_X12_ocean s m args below meth c H locs 0 0 (MQ below (CQ D (some (.int o_r)) (w_X12_ocean a0 q_text q_depths q_tune q_far q_books q_told q_years q_months q_ring q_woods q_ends q_wood q_sheets q_marsh q_oldest q_youngest q_knowns q_known q_weight q_chance q_digs q_draft q_isKept cA s_trace o_typed s_earliest s_latest s_firstYear s_rings s_text o_depths) A) args s 0 0 A) (F0 m 172 ls [.int z0]) := by
  obtain ⟨hx, hb, hml, hown, hts, hr, hlocks, hX⟩ := C0
  have hK := hX.1
  have hN := hX.2
  intro z0 s_typed s_depths hf H locs hP hD hS ls hl
  unfold f_X12_ocean_172 at hf
  refine lv_istore_n (lv' := [(2, .int z0), (0, .ref a0)]) hx hb dX12_ocean_172 rfl hl (by decide) rfl (fun ls hl => ?_)
  refine lv_iload_n hx hb dX12_ocean_173 rfl (lv_at hl 0 rfl) ?_
  refine lv_bipush (v := (-9 : Int32)) hx hb dX12_ocean_174 (by decide) ?_
  refine lv_icmp_eq (tgt := 184) hx hb dX12_ocean_176 (by decide) (fun c_1 => ?_) (fun c_1 => ?_)
  · have hf := pbr_t c_1 hf
    refine lv_iconst (v := (0 : Int32)) hx hb dX12_ocean_184 (by decide) ?_
    refine lv_istore_n (lv' := [(3, .int (0 : Int32)), (2, .int z0), (0, .ref a0)]) hx hb dX12_ocean_185 rfl hl (by decide) rfl (fun ls hl => ?_)
    exact k_X12_ocean_186 ⟨hx, hb, hml, hown, hts, hr, hlocks, hX⟩ hA FU (0 : Int32) s_typed s_depths hf _ _ hP hD hS ls (lv_sub hl [2, 0] rfl)
  have hf := pbr_f c_1 hf
  refine lv_bipush (v := (-10 : Int32)) hx hb dX12_ocean_179 (by decide) ?_
  refine lv_iload_n hx hb dX12_ocean_181 rfl (lv_at hl 0 rfl) ?_
  refine lv_isub hx hb dX12_ocean_182 ?_
  obtain ⟨rfl, rfl, rfl⟩ := pe3 hf
  exact m_iret hx hb hr hlocks hP hS dX12_ocean_183

def f_X12_ocean_171 (s_text : Nat → Int32) (x2 : Int32) (s_typed : Int32) (s_depths : Nat → Int32) : Option ((Int32) × (Int32) × (Nat → Int32)) :=
  f_X12_ocean_172 s_text x2 s_typed s_depths

set_option maxRecDepth 100000 in
set_option maxHeartbeats 4000000 in
theorem k_X12_ocean_171 {p : Program} {l : Launch} {e : Env} {s : State} {m : MethodId} {args : Array Value} {below : List Frame} {meth : Method} {c : Code} {A : Nat → Prop} {D : va_G} {cA : Nat → ClassId} (C0 : MX p s m args meth c cX12_ocean 7 wsX12_ocean RX12 (some .int) D cA) (hA : ∀ q, s.heap.size ≤ q → A q) {a0 : Nat} {q_text : Nat} {q_depths : Nat} {q_tune : Nat} {q_far : Nat} {q_books : Nat} {q_told : Nat} {q_years : Nat} {q_months : Nat} {q_ring : Nat} {q_woods : Nat} {q_ends : Nat} {q_wood : Nat} {q_sheets : Nat} {q_marsh : Nat} {q_oldest : Nat} {q_youngest : Nat} {q_knowns : Nat} {q_known : Nat} {q_weight : Nat} {q_chance : Nat} {q_digs : Nat} {q_draft : Nat} {q_isKept : Nat} {s_trace : Int64} {s_earliest : Int32} {s_latest : Int32} {s_firstYear : Int32} {s_rings : Int32} {s_text : Nat → Int32} {o_r : Int32} {o_typed : Int32} {o_depths : Nat → Int32} : ∀ (x2 : Int32) (s_typed : Int32) (s_depths : Nat → Int32), f_X12_ocean_171 s_text x2 s_typed s_depths = some (o_r, o_typed, o_depths) → ∀ (H : Heap) (locs : List Loc), va_P D vwCl (w_X12_ocean a0 q_text q_depths q_tune q_far q_books q_told q_years q_months q_ring q_woods q_ends q_wood q_sheets q_marsh q_oldest q_youngest q_knowns q_known q_weight q_chance q_digs q_draft q_isKept cA s_trace s_typed s_earliest s_latest s_firstYear s_rings s_text s_depths) H → va_D A (w_X12_ocean a0 q_text q_depths q_tune q_far q_books q_told q_years q_months q_ring q_woods q_ends q_wood q_sheets q_marsh q_oldest q_youngest q_knowns q_known q_weight q_chance q_digs q_draft q_isKept cA s_trace s_typed s_earliest s_latest s_firstYear s_rings s_text s_depths) → va_S A s.heap H locs → ∀ ls : Array Slot, lv_has ls 7 [(0, .ref a0), (2, .int x2)] → W p l e rm_X12_ocean s m args below meth c H locs 0 0 (MQ below (CQ D (some (.int o_r)) (w_X12_ocean a0 q_text q_depths q_tune q_far q_books q_told q_years q_months q_ring q_woods q_ends q_wood q_sheets q_marsh q_oldest q_youngest q_knowns q_known q_weight q_chance q_digs q_draft q_isKept cA s_trace o_typed s_earliest s_latest s_firstYear s_rings s_text o_depths) A) args s 0 0 A) (F0 m 171 ls []) := by
  obtain ⟨hx, hb, hml, hown, hts, hr, hlocks, hX⟩ := C0
  have hK := hX.1
  have hN := hX.2
  intro x2 s_typed s_depths hf H locs hP hD hS ls hl
  unfold f_X12_ocean_171 at hf
  refine lv_iload_n hx hb dX12_ocean_171 rfl (lv_at hl 1 rfl) ?_
  exact k_X12_ocean_172 ⟨hx, hb, hml, hown, hts, hr, hlocks, hX⟩ hA x2 s_typed s_depths hf _ _ hP hD hS ls (lv_sub hl [0] rfl)

def f_X12_ocean_152 (s_text : Nat → Int32) (x1 : Int32) (x2 : Int32) (s_typed : Int32) (s_depths : Nat → Int32) : Option ((Int32) × (Int32) × (Nat → Int32)) :=
  pbr (x2 = (-9 : Int32))
    (pbr ((54 : Int32) ≤ x1)
      (f_X12_ocean_171 s_text x2 s_typed s_depths)
      (f_X12_ocean_172 s_text s_typed s_typed s_depths))
    (f_X12_ocean_171 s_text x2 s_typed s_depths)

set_option maxRecDepth 100000 in
set_option maxHeartbeats 4000000 in
theorem k_X12_ocean_152 {p : Program} {l : Launch} {e : Env} {s : State} {m : MethodId} {args : Array Value} {below : List Frame} {meth : Method} {c : Code} {A : Nat → Prop} {D : va_G} {cA : Nat → ClassId} (C0 : MX p s m args meth c cX12_ocean 7 wsX12_ocean RX12 (some .int) D cA) (hA : ∀ q, s.heap.size ≤ q → A q) {a0 : Nat} {q_text : Nat} {q_depths : Nat} {q_tune : Nat} {q_far : Nat} {q_books : Nat} {q_told : Nat} {q_years : Nat} {q_months : Nat} {q_ring : Nat} {q_woods : Nat} {q_ends : Nat} {q_wood : Nat} {q_sheets : Nat} {q_marsh : Nat} {q_oldest : Nat} {q_youngest : Nat} {q_knowns : Nat} {q_known : Nat} {q_weight : Nat} {q_chance : Nat} {q_digs : Nat} {q_draft : Nat} {q_isKept : Nat} {s_trace : Int64} {s_earliest : Int32} {s_latest : Int32} {s_firstYear : Int32} {s_rings : Int32} {s_text : Nat → Int32} {o_r : Int32} {o_typed : Int32} {o_depths : Nat → Int32} : ∀ (x1 : Int32) (x2 : Int32) (s_typed : Int32) (s_depths : Nat → Int32), f_X12_ocean_152 s_text x1 x2 s_typed s_depths = some (o_r, o_typed, o_depths) → ∀ (H : Heap) (locs : List Loc), va_P D vwCl (w_X12_ocean a0 q_text q_depths q_tune q_far q_books q_told q_years q_months q_ring q_woods q_ends q_wood q_sheets q_marsh q_oldest q_youngest q_knowns q_known q_weight q_chance q_digs q_draft q_isKept cA s_trace s_typed s_earliest s_latest s_firstYear s_rings s_text s_depths) H → va_D A (w_X12_ocean a0 q_text q_depths q_tune q_far q_books q_told q_years q_months q_ring q_woods q_ends q_wood q_sheets q_marsh q_oldest q_youngest q_knowns q_known q_weight q_chance q_digs q_draft q_isKept cA s_trace s_typed s_earliest s_latest s_firstYear s_rings s_text s_depths) → va_S A s.heap H locs → ∀ ls : Array Slot, lv_has ls 7 [(0, .ref a0), (1, .int x1), (2, .int x2)] → W p l e rm_X12_ocean s m args below meth c H locs 0 0 (MQ below (CQ D (some (.int o_r)) (w_X12_ocean a0 q_text q_depths q_tune q_far q_books q_told q_years q_months q_ring q_woods q_ends q_wood q_sheets q_marsh q_oldest q_youngest q_knowns q_known q_weight q_chance q_digs q_draft q_isKept cA s_trace o_typed s_earliest s_latest s_firstYear s_rings s_text o_depths) A) args s 0 0 A) (F0 m 152 ls []) := by
  obtain ⟨hx, hb, hml, hown, hts, hr, hlocks, hX⟩ := C0
  have hK := hX.1
  have hN := hX.2
  intro x1 x2 s_typed s_depths hf H locs hP hD hS ls hl
  unfold f_X12_ocean_152 at hf
  refine lv_iload_n hx hb dX12_ocean_152 rfl (lv_at hl 2 rfl) ?_
  refine lv_bipush (v := (-9 : Int32)) hx hb dX12_ocean_153 (by decide) ?_
  refine lv_icmp_ne (tgt := 171) hx hb dX12_ocean_155 (by decide) (fun c_1 => ?_) (fun c_1 => ?_)
  · have hf := pbr_f c_1 hf
    exact k_X12_ocean_171 ⟨hx, hb, hml, hown, hts, hr, hlocks, hX⟩ hA x2 s_typed s_depths hf _ _ hP hD hS ls (lv_sub hl [0, 2] rfl)
  have hf := pbr_t c_1 hf
  refine lv_iload_n hx hb dX12_ocean_158 rfl (lv_at hl 1 rfl) ?_
  refine lv_bipush (v := (54 : Int32)) hx hb dX12_ocean_159 (by decide) ?_
  refine lv_icmp_ge (tgt := 171) hx hb dX12_ocean_161 (by decide) (fun c_2 => ?_) (fun c_2 => ?_)
  · have hf := pbr_t c_2 hf
    exact k_X12_ocean_171 ⟨hx, hb, hml, hown, hts, hr, hlocks, hX⟩ hA x2 s_typed s_depths hf _ _ hP hD hS ls (lv_sub hl [0, 2] rfl)
  have hf := pbr_f c_2 hf
  refine lv_aload_n hx hb dX12_ocean_164 rfl (lv_at hl 0 rfl) ?_
  refine va_get (D := D) (ci := 12) (v := .int s_typed) (C := RX12) (T := TX12) (N := 29) hx hb hts hn_X12_ocean_X12 hown hK hP 0 rfl rfl 2 (by decide) (hts _ hw_X12_ocean_f90) (fun _ h9 => h9) rfl dX12_ocean_165 ?_
  refine lv_goto (tgt := 172) hx hb dX12_ocean_168 (by decide) ?_
  exact k_X12_ocean_172 ⟨hx, hb, hml, hown, hts, hr, hlocks, hX⟩ hA s_typed s_typed s_depths hf _ _ hP hD hS ls (lv_sub hl [0] rfl)

def f_X12_ocean_107 (r7 : (Int32) → (Int32) → (Int32) → (Int32) → (Nat → Int32) → Option ((Int32) × (Int32) × (Nat → Int32))) (s_text : Nat → Int32) (x1 : Int32) (x3 : Int32) (x4 : Int32) (x5 : Int32) (x6 : Int32) (z0 : Int32) (s_typed : Int32) (s_depths : Nat → Int32) : Option ((Int32) × (Int32) × (Nat → Int32)) :=
  pbr (x6 = 0)
    (plt (x1 + (1 : Int32) : Int32) (fun x1_2 => (
    plt (x3 + (1 : Int32) : Int32) (fun x3_3 => (
    r7 x1_2 z0 x3_3 s_typed s_depths)))))
    (pbr (x5 = 0)
      (pgd (pin (((48 : Int32) + ((8 : Int32) * (x1 / (9 : Int32)))) + (x1 - x1 / (9 : Int32) * (9 : Int32))) 96) (
      plt (upd s_depths (((48 : Int32) + ((8 : Int32) * (x1 / (9 : Int32)))) + (x1 - x1 / (9 : Int32) * (9 : Int32))).toNatClampNeg (x4 - (48 : Int32)) : Nat → Int32) (fun f_8 => (
      plt (x1 + (1 : Int32) : Int32) (fun x1_9 => (
      plt (x3 + (1 : Int32) : Int32) (fun x3_10 => (
      r7 x1_9 z0 x3_10 s_typed f_8))))))))
      (plt (x1 + (1 : Int32) : Int32) (fun x1_5 => (
      plt (x3 + (1 : Int32) : Int32) (fun x3_6 => (
      r7 x1_5 z0 x3_6 s_typed s_depths))))))

set_option maxRecDepth 100000 in
set_option maxHeartbeats 4000000 in
theorem k_X12_ocean_107 {p : Program} {l : Launch} {e : Env} {s : State} {m : MethodId} {args : Array Value} {below : List Frame} {meth : Method} {c : Code} {A : Nat → Prop} {D : va_G} {cA : Nat → ClassId} (C0 : MX p s m args meth c cX12_ocean 7 wsX12_ocean RX12 (some .int) D cA) (hA : ∀ q, s.heap.size ≤ q → A q) {a0 : Nat} {q_text : Nat} {q_depths : Nat} {q_tune : Nat} {q_far : Nat} {q_books : Nat} {q_told : Nat} {q_years : Nat} {q_months : Nat} {q_ring : Nat} {q_woods : Nat} {q_ends : Nat} {q_wood : Nat} {q_sheets : Nat} {q_marsh : Nat} {q_oldest : Nat} {q_youngest : Nat} {q_knowns : Nat} {q_known : Nat} {q_weight : Nat} {q_chance : Nat} {q_digs : Nat} {q_draft : Nat} {q_isKept : Nat} {s_trace : Int64} {s_earliest : Int32} {s_latest : Int32} {s_firstYear : Int32} {s_rings : Int32} {s_text : Nat → Int32} {o_r : Int32} {o_typed : Int32} {o_depths : Nat → Int32} {r7 : (Int32) → (Int32) → (Int32) → (Int32) → (Nat → Int32) → Option ((Int32) × (Int32) × (Nat → Int32))} (hr7 : ∀ (x1 : Int32) (x2 : Int32) (x3 : Int32) (s_typed : Int32) (s_depths : Nat → Int32), r7 x1 x2 x3 s_typed s_depths = some (o_r, o_typed, o_depths) → ∀ (H : Heap) (locs : List Loc), va_P D vwCl (w_X12_ocean a0 q_text q_depths q_tune q_far q_books q_told q_years q_months q_ring q_woods q_ends q_wood q_sheets q_marsh q_oldest q_youngest q_knowns q_known q_weight q_chance q_digs q_draft q_isKept cA s_trace s_typed s_earliest s_latest s_firstYear s_rings s_text s_depths) H → va_D A (w_X12_ocean a0 q_text q_depths q_tune q_far q_books q_told q_years q_months q_ring q_woods q_ends q_wood q_sheets q_marsh q_oldest q_youngest q_knowns q_known q_weight q_chance q_digs q_draft q_isKept cA s_trace s_typed s_earliest s_latest s_firstYear s_rings s_text s_depths) → va_S A s.heap H locs → ∀ ls : Array Slot, lv_has ls 7 [(0, .ref a0), (1, .int x1), (2, .int x2), (3, .int x3)] → W p l e rm_X12_ocean s m args below meth c H locs 0 0 (MQ below (CQ D (some (.int o_r)) (w_X12_ocean a0 q_text q_depths q_tune q_far q_books q_told q_years q_months q_ring q_woods q_ends q_wood q_sheets q_marsh q_oldest q_youngest q_knowns q_known q_weight q_chance q_digs q_draft q_isKept cA s_trace o_typed s_earliest s_latest s_firstYear s_rings s_text o_depths) A) args s 0 0 A) (F0 m 7 ls [])) : ∀ (x1 : Int32) (x3 : Int32) (x4 : Int32) (x5 : Int32) (x6 : Int32) (z0 : Int32) (s_typed : Int32) (s_depths : Nat → Int32), f_X12_ocean_107 r7 s_text x1 x3 x4 x5 x6 z0 s_typed s_depths = some (o_r, o_typed, o_depths) → ∀ (H : Heap) (locs : List Loc), va_P D vwCl (w_X12_ocean a0 q_text q_depths q_tune q_far q_books q_told q_years q_months q_ring q_woods q_ends q_wood q_sheets q_marsh q_oldest q_youngest q_knowns q_known q_weight q_chance q_digs q_draft q_isKept cA s_trace s_typed s_earliest s_latest s_firstYear s_rings s_text s_depths) H → va_D A (w_X12_ocean a0 q_text q_depths q_tune q_far q_books q_told q_years q_months q_ring q_woods q_ends q_wood q_sheets q_marsh q_oldest q_youngest q_knowns q_known q_weight q_chance q_digs q_draft q_isKept cA s_trace s_typed s_earliest s_latest s_firstYear s_rings s_text s_depths) → va_S A s.heap H locs → ∀ ls : Array Slot, lv_has ls 7 [(0, .ref a0), (1, .int x1), (3, .int x3), (4, .int x4), (5, .int x5), (6, .int x6)] → W p l e rm_X12_ocean s m args below meth c H locs 0 0 (MQ below (CQ D (some (.int o_r)) (w_X12_ocean a0 q_text q_depths q_tune q_far q_books q_told q_years q_months q_ring q_woods q_ends q_wood q_sheets q_marsh q_oldest q_youngest q_knowns q_known q_weight q_chance q_digs q_draft q_isKept cA s_trace o_typed s_earliest s_latest s_firstYear s_rings s_text o_depths) A) args s 0 0 A) (F0 m 107 ls [.int z0]) := by
  obtain ⟨hx, hb, hml, hown, hts, hr, hlocks, hX⟩ := C0
  have hK := hX.1
  have hN := hX.2
  intro x1 x3 x4 x5 x6 z0 s_typed s_depths hf H locs hP hD hS ls hl
  unfold f_X12_ocean_107 at hf
  refine lv_istore_n (lv' := [(2, .int z0), (0, .ref a0), (1, .int x1), (3, .int x3), (4, .int x4), (5, .int x5), (6, .int x6)]) hx hb dX12_ocean_107 rfl hl (by decide) rfl (fun ls hl => ?_)
  refine lv_iload hx hb dX12_ocean_108 (lv_at hl 6 rfl) ?_
  refine lv_if_eq (tgt := 143) hx hb dX12_ocean_110 (by decide) (fun c_1 => ?_) (fun c_1 => ?_)
  · have hf := pbr_t c_1 hf
    obtain ⟨x1_2, ex1_2⟩ : ∃ z : Int32, z = x1 + (1 : Int32) := ⟨_, rfl⟩
    have hf := plt_e ex1_2 hf
    refine lv_iinc (v := x1_2) (lv' := [(1, .int x1_2), (2, .int z0), (0, .ref a0), (3, .int x3), (4, .int x4), (5, .int x5), (6, .int x6)]) hx hb dX12_ocean_143 hl (k := 2) rfl (by rw [ex1_2]; rfl) (by decide) rfl (fun ls hl => ?_)
    obtain ⟨x3_3, ex3_3⟩ : ∃ z : Int32, z = x3 + (1 : Int32) := ⟨_, rfl⟩
    have hf := plt_e ex3_3 hf
    refine lv_iinc (v := x3_3) (lv' := [(3, .int x3_3), (1, .int x1_2), (2, .int z0), (0, .ref a0), (4, .int x4), (5, .int x5), (6, .int x6)]) hx hb dX12_ocean_146 hl (k := 3) rfl (by rw [ex3_3]; rfl) (by decide) rfl (fun ls hl => ?_)
    refine lv_goto (tgt := 7) hx hb dX12_ocean_149 (by decide) ?_
    exact hr7 x1_2 z0 x3_3 s_typed s_depths hf _ _ hP hD hS ls (lv_sub hl [3, 1, 2, 0] rfl)
  have hf := pbr_f c_1 hf
  refine lv_iload hx hb dX12_ocean_113 (lv_at hl 5 rfl) ?_
  refine lv_if_ne (tgt := 143) hx hb dX12_ocean_115 (by decide) (fun c_4 => ?_) (fun c_4 => ?_)
  · have hf := pbr_f c_4 hf
    obtain ⟨x1_5, ex1_5⟩ : ∃ z : Int32, z = x1 + (1 : Int32) := ⟨_, rfl⟩
    have hf := plt_e ex1_5 hf
    refine lv_iinc (v := x1_5) (lv' := [(1, .int x1_5), (2, .int z0), (0, .ref a0), (3, .int x3), (4, .int x4), (5, .int x5), (6, .int x6)]) hx hb dX12_ocean_143 hl (k := 2) rfl (by rw [ex1_5]; rfl) (by decide) rfl (fun ls hl => ?_)
    obtain ⟨x3_6, ex3_6⟩ : ∃ z : Int32, z = x3 + (1 : Int32) := ⟨_, rfl⟩
    have hf := plt_e ex3_6 hf
    refine lv_iinc (v := x3_6) (lv' := [(3, .int x3_6), (1, .int x1_5), (2, .int z0), (0, .ref a0), (4, .int x4), (5, .int x5), (6, .int x6)]) hx hb dX12_ocean_146 hl (k := 3) rfl (by rw [ex3_6]; rfl) (by decide) rfl (fun ls hl => ?_)
    refine lv_goto (tgt := 7) hx hb dX12_ocean_149 (by decide) ?_
    exact hr7 x1_5 z0 x3_6 s_typed s_depths hf _ _ hP hD hS ls (lv_sub hl [3, 1, 2, 0] rfl)
  have hf := pbr_t c_4 hf
  refine lv_aload_n hx hb dX12_ocean_118 rfl (lv_at hl 1 rfl) ?_
  refine va_get (D := D) (ci := 12) (v := .ref q_depths) (C := RX12) (T := TX12) (N := 29) hx hb hts hn_X12_ocean_X12 hown hK hP 0 rfl rfl 3 (by decide) (hts _ hw_X12_ocean_f13) (fun _ h9 => h9) rfl dX12_ocean_119 ?_
  refine lv_bipush (v := (48 : Int32)) hx hb dX12_ocean_122 (by decide) ?_
  refine lv_bipush (v := (8 : Int32)) hx hb dX12_ocean_124 (by decide) ?_
  refine lv_iload_n hx hb dX12_ocean_126 rfl (lv_at hl 2 rfl) ?_
  refine lv_bipush (v := (9 : Int32)) hx hb dX12_ocean_127 (by decide) ?_
  refine lv_idiv hx hb dX12_ocean_129 (by decide) ?_
  refine lv_imul hx hb dX12_ocean_130 ?_
  refine lv_iadd hx hb dX12_ocean_131 ?_
  refine lv_iload_n hx hb dX12_ocean_132 rfl (lv_at hl 2 rfl) ?_
  refine lv_bipush (v := (9 : Int32)) hx hb dX12_ocean_133 (by decide) ?_
  refine lv_irem hx hb dX12_ocean_135 (by decide) ?_
  refine lv_iadd hx hb dX12_ocean_136 ?_
  refine lv_iload hx hb dX12_ocean_137 (lv_at hl 4 rfl) ?_
  refine lv_bipush (v := (48 : Int32)) hx hb dX12_ocean_139 (by decide) ?_
  refine lv_isub hx hb dX12_ocean_141 ?_
  obtain ⟨g_7, hf⟩ := pgd_e hf
  refine va_iast hx hb hK hP hD hS 2 1 rfl rfl g_7 dX12_ocean_142 (fun H locs hP hD hS => ?_)
  obtain ⟨f_8, ef_8⟩ : ∃ z : Nat → Int32, z = upd s_depths (((48 : Int32) + ((8 : Int32) * (x1 / (9 : Int32)))) + (x1 - x1 / (9 : Int32) * (9 : Int32))).toNatClampNeg (x4 - (48 : Int32)) := ⟨_, rfl⟩
  have hf := plt_e ef_8 hf
  have hP : va_P D vwCl (w_X12_ocean a0 q_text q_depths q_tune q_far q_books q_told q_years q_months q_ring q_woods q_ends q_wood q_sheets q_marsh q_oldest q_youngest q_knowns q_known q_weight q_chance q_digs q_draft q_isKept cA s_trace s_typed s_earliest s_latest s_firstYear s_rings s_text f_8) H := by rw [ef_8]; exact hP
  have hD : va_D A (w_X12_ocean a0 q_text q_depths q_tune q_far q_books q_told q_years q_months q_ring q_woods q_ends q_wood q_sheets q_marsh q_oldest q_youngest q_knowns q_known q_weight q_chance q_digs q_draft q_isKept cA s_trace s_typed s_earliest s_latest s_firstYear s_rings s_text f_8) := by rw [ef_8]; exact hD
  obtain ⟨x1_9, ex1_9⟩ : ∃ z : Int32, z = x1 + (1 : Int32) := ⟨_, rfl⟩
  have hf := plt_e ex1_9 hf
  refine lv_iinc (v := x1_9) (lv' := [(1, .int x1_9), (2, .int z0), (0, .ref a0), (3, .int x3), (4, .int x4), (5, .int x5), (6, .int x6)]) hx hb dX12_ocean_143 hl (k := 2) rfl (by rw [ex1_9]; rfl) (by decide) rfl (fun ls hl => ?_)
  obtain ⟨x3_10, ex3_10⟩ : ∃ z : Int32, z = x3 + (1 : Int32) := ⟨_, rfl⟩
  have hf := plt_e ex3_10 hf
  refine lv_iinc (v := x3_10) (lv' := [(3, .int x3_10), (1, .int x1_9), (2, .int z0), (0, .ref a0), (4, .int x4), (5, .int x5), (6, .int x6)]) hx hb dX12_ocean_146 hl (k := 3) rfl (by rw [ex3_10]; rfl) (by decide) rfl (fun ls hl => ?_)
  refine lv_goto (tgt := 7) hx hb dX12_ocean_149 (by decide) ?_
  exact hr7 x1_9 z0 x3_10 s_typed f_8 hf _ _ hP hD hS ls (lv_sub hl [3, 1, 2, 0] rfl)

def f_X12_ocean_94 (r7 : (Int32) → (Int32) → (Int32) → (Int32) → (Nat → Int32) → Option ((Int32) × (Int32) × (Nat → Int32))) (s_text : Nat → Int32) (x1 : Int32) (x3 : Int32) (x4 : Int32) (x5 : Int32) (z0 : Int32) (s_typed : Int32) (s_depths : Nat → Int32) : Option ((Int32) × (Int32) × (Nat → Int32)) :=
  pbr (z0 = 0)
    (f_X12_ocean_107 r7 s_text x1 x3 x4 x5 z0 x3 s_typed s_depths)
    (f_X12_ocean_107 r7 s_text x1 x3 x4 x5 z0 (-9 : Int32) s_typed s_depths)

set_option maxRecDepth 100000 in
set_option maxHeartbeats 4000000 in
theorem k_X12_ocean_94 {p : Program} {l : Launch} {e : Env} {s : State} {m : MethodId} {args : Array Value} {below : List Frame} {meth : Method} {c : Code} {A : Nat → Prop} {D : va_G} {cA : Nat → ClassId} (C0 : MX p s m args meth c cX12_ocean 7 wsX12_ocean RX12 (some .int) D cA) (hA : ∀ q, s.heap.size ≤ q → A q) {a0 : Nat} {q_text : Nat} {q_depths : Nat} {q_tune : Nat} {q_far : Nat} {q_books : Nat} {q_told : Nat} {q_years : Nat} {q_months : Nat} {q_ring : Nat} {q_woods : Nat} {q_ends : Nat} {q_wood : Nat} {q_sheets : Nat} {q_marsh : Nat} {q_oldest : Nat} {q_youngest : Nat} {q_knowns : Nat} {q_known : Nat} {q_weight : Nat} {q_chance : Nat} {q_digs : Nat} {q_draft : Nat} {q_isKept : Nat} {s_trace : Int64} {s_earliest : Int32} {s_latest : Int32} {s_firstYear : Int32} {s_rings : Int32} {s_text : Nat → Int32} {o_r : Int32} {o_typed : Int32} {o_depths : Nat → Int32} {r7 : (Int32) → (Int32) → (Int32) → (Int32) → (Nat → Int32) → Option ((Int32) × (Int32) × (Nat → Int32))} (hr7 : ∀ (x1 : Int32) (x2 : Int32) (x3 : Int32) (s_typed : Int32) (s_depths : Nat → Int32), r7 x1 x2 x3 s_typed s_depths = some (o_r, o_typed, o_depths) → ∀ (H : Heap) (locs : List Loc), va_P D vwCl (w_X12_ocean a0 q_text q_depths q_tune q_far q_books q_told q_years q_months q_ring q_woods q_ends q_wood q_sheets q_marsh q_oldest q_youngest q_knowns q_known q_weight q_chance q_digs q_draft q_isKept cA s_trace s_typed s_earliest s_latest s_firstYear s_rings s_text s_depths) H → va_D A (w_X12_ocean a0 q_text q_depths q_tune q_far q_books q_told q_years q_months q_ring q_woods q_ends q_wood q_sheets q_marsh q_oldest q_youngest q_knowns q_known q_weight q_chance q_digs q_draft q_isKept cA s_trace s_typed s_earliest s_latest s_firstYear s_rings s_text s_depths) → va_S A s.heap H locs → ∀ ls : Array Slot, lv_has ls 7 [(0, .ref a0), (1, .int x1), (2, .int x2), (3, .int x3)] → W p l e rm_X12_ocean s m args below meth c H locs 0 0 (MQ below (CQ D (some (.int o_r)) (w_X12_ocean a0 q_text q_depths q_tune q_far q_books q_told q_years q_months q_ring q_woods q_ends q_wood q_sheets q_marsh q_oldest q_youngest q_knowns q_known q_weight q_chance q_digs q_draft q_isKept cA s_trace o_typed s_earliest s_latest s_firstYear s_rings s_text o_depths) A) args s 0 0 A) (F0 m 7 ls [])) : ∀ (x1 : Int32) (x3 : Int32) (x4 : Int32) (x5 : Int32) (z0 : Int32) (s_typed : Int32) (s_depths : Nat → Int32), f_X12_ocean_94 r7 s_text x1 x3 x4 x5 z0 s_typed s_depths = some (o_r, o_typed, o_depths) → ∀ (H : Heap) (locs : List Loc), va_P D vwCl (w_X12_ocean a0 q_text q_depths q_tune q_far q_books q_told q_years q_months q_ring q_woods q_ends q_wood q_sheets q_marsh q_oldest q_youngest q_knowns q_known q_weight q_chance q_digs q_draft q_isKept cA s_trace s_typed s_earliest s_latest s_firstYear s_rings s_text s_depths) H → va_D A (w_X12_ocean a0 q_text q_depths q_tune q_far q_books q_told q_years q_months q_ring q_woods q_ends q_wood q_sheets q_marsh q_oldest q_youngest q_knowns q_known q_weight q_chance q_digs q_draft q_isKept cA s_trace s_typed s_earliest s_latest s_firstYear s_rings s_text s_depths) → va_S A s.heap H locs → ∀ ls : Array Slot, lv_has ls 7 [(0, .ref a0), (1, .int x1), (3, .int x3), (4, .int x4), (5, .int x5)] → W p l e rm_X12_ocean s m args below meth c H locs 0 0 (MQ below (CQ D (some (.int o_r)) (w_X12_ocean a0 q_text q_depths q_tune q_far q_books q_told q_years q_months q_ring q_woods q_ends q_wood q_sheets q_marsh q_oldest q_youngest q_knowns q_known q_weight q_chance q_digs q_draft q_isKept cA s_trace o_typed s_earliest s_latest s_firstYear s_rings s_text o_depths) A) args s 0 0 A) (F0 m 94 ls [.int z0]) := by
  obtain ⟨hx, hb, hml, hown, hts, hr, hlocks, hX⟩ := C0
  have hK := hX.1
  have hN := hX.2
  intro x1 x3 x4 x5 z0 s_typed s_depths hf H locs hP hD hS ls hl
  unfold f_X12_ocean_94 at hf
  refine lv_istore (lv' := [(6, .int z0), (0, .ref a0), (1, .int x1), (3, .int x3), (4, .int x4), (5, .int x5)]) hx hb dX12_ocean_94 hl (by decide) rfl (fun ls hl => ?_)
  refine lv_iload hx hb dX12_ocean_96 (lv_at hl 0 rfl) ?_
  refine lv_if_eq (tgt := 106) hx hb dX12_ocean_98 (by decide) (fun c_1 => ?_) (fun c_1 => ?_)
  · have hf := pbr_t c_1 hf
    refine lv_iload_n hx hb dX12_ocean_106 rfl (lv_at hl 3 rfl) ?_
    exact k_X12_ocean_107 ⟨hx, hb, hml, hown, hts, hr, hlocks, hX⟩ hA hr7 x1 x3 x4 x5 z0 x3 s_typed s_depths hf _ _ hP hD hS ls (lv_sub hl [1, 2, 3, 4, 5, 0] rfl)
  have hf := pbr_f c_1 hf
  refine lv_bipush (v := (-9 : Int32)) hx hb dX12_ocean_101 (by decide) ?_
  refine lv_goto (tgt := 107) hx hb dX12_ocean_103 (by decide) ?_
  exact k_X12_ocean_107 ⟨hx, hb, hml, hown, hts, hr, hlocks, hX⟩ hA hr7 x1 x3 x4 x5 z0 (-9 : Int32) s_typed s_depths hf _ _ hP hD hS ls (lv_sub hl [1, 2, 3, 4, 5, 0] rfl)

def f_X12_ocean_93 (r7 : (Int32) → (Int32) → (Int32) → (Int32) → (Nat → Int32) → Option ((Int32) × (Int32) × (Nat → Int32))) (s_text : Nat → Int32) (x1 : Int32) (x3 : Int32) (x4 : Int32) (x5 : Int32) (s_typed : Int32) (s_depths : Nat → Int32) : Option ((Int32) × (Int32) × (Nat → Int32)) :=
  f_X12_ocean_94 r7 s_text x1 x3 x4 x5 (0 : Int32) s_typed s_depths

set_option maxRecDepth 100000 in
set_option maxHeartbeats 4000000 in
theorem k_X12_ocean_93 {p : Program} {l : Launch} {e : Env} {s : State} {m : MethodId} {args : Array Value} {below : List Frame} {meth : Method} {c : Code} {A : Nat → Prop} {D : va_G} {cA : Nat → ClassId} (C0 : MX p s m args meth c cX12_ocean 7 wsX12_ocean RX12 (some .int) D cA) (hA : ∀ q, s.heap.size ≤ q → A q) {a0 : Nat} {q_text : Nat} {q_depths : Nat} {q_tune : Nat} {q_far : Nat} {q_books : Nat} {q_told : Nat} {q_years : Nat} {q_months : Nat} {q_ring : Nat} {q_woods : Nat} {q_ends : Nat} {q_wood : Nat} {q_sheets : Nat} {q_marsh : Nat} {q_oldest : Nat} {q_youngest : Nat} {q_knowns : Nat} {q_known : Nat} {q_weight : Nat} {q_chance : Nat} {q_digs : Nat} {q_draft : Nat} {q_isKept : Nat} {s_trace : Int64} {s_earliest : Int32} {s_latest : Int32} {s_firstYear : Int32} {s_rings : Int32} {s_text : Nat → Int32} {o_r : Int32} {o_typed : Int32} {o_depths : Nat → Int32} {r7 : (Int32) → (Int32) → (Int32) → (Int32) → (Nat → Int32) → Option ((Int32) × (Int32) × (Nat → Int32))} (hr7 : ∀ (x1 : Int32) (x2 : Int32) (x3 : Int32) (s_typed : Int32) (s_depths : Nat → Int32), r7 x1 x2 x3 s_typed s_depths = some (o_r, o_typed, o_depths) → ∀ (H : Heap) (locs : List Loc), va_P D vwCl (w_X12_ocean a0 q_text q_depths q_tune q_far q_books q_told q_years q_months q_ring q_woods q_ends q_wood q_sheets q_marsh q_oldest q_youngest q_knowns q_known q_weight q_chance q_digs q_draft q_isKept cA s_trace s_typed s_earliest s_latest s_firstYear s_rings s_text s_depths) H → va_D A (w_X12_ocean a0 q_text q_depths q_tune q_far q_books q_told q_years q_months q_ring q_woods q_ends q_wood q_sheets q_marsh q_oldest q_youngest q_knowns q_known q_weight q_chance q_digs q_draft q_isKept cA s_trace s_typed s_earliest s_latest s_firstYear s_rings s_text s_depths) → va_S A s.heap H locs → ∀ ls : Array Slot, lv_has ls 7 [(0, .ref a0), (1, .int x1), (2, .int x2), (3, .int x3)] → W p l e rm_X12_ocean s m args below meth c H locs 0 0 (MQ below (CQ D (some (.int o_r)) (w_X12_ocean a0 q_text q_depths q_tune q_far q_books q_told q_years q_months q_ring q_woods q_ends q_wood q_sheets q_marsh q_oldest q_youngest q_knowns q_known q_weight q_chance q_digs q_draft q_isKept cA s_trace o_typed s_earliest s_latest s_firstYear s_rings s_text o_depths) A) args s 0 0 A) (F0 m 7 ls [])) : ∀ (x1 : Int32) (x3 : Int32) (x4 : Int32) (x5 : Int32) (s_typed : Int32) (s_depths : Nat → Int32), f_X12_ocean_93 r7 s_text x1 x3 x4 x5 s_typed s_depths = some (o_r, o_typed, o_depths) → ∀ (H : Heap) (locs : List Loc), va_P D vwCl (w_X12_ocean a0 q_text q_depths q_tune q_far q_books q_told q_years q_months q_ring q_woods q_ends q_wood q_sheets q_marsh q_oldest q_youngest q_knowns q_known q_weight q_chance q_digs q_draft q_isKept cA s_trace s_typed s_earliest s_latest s_firstYear s_rings s_text s_depths) H → va_D A (w_X12_ocean a0 q_text q_depths q_tune q_far q_books q_told q_years q_months q_ring q_woods q_ends q_wood q_sheets q_marsh q_oldest q_youngest q_knowns q_known q_weight q_chance q_digs q_draft q_isKept cA s_trace s_typed s_earliest s_latest s_firstYear s_rings s_text s_depths) → va_S A s.heap H locs → ∀ ls : Array Slot, lv_has ls 7 [(0, .ref a0), (1, .int x1), (3, .int x3), (4, .int x4), (5, .int x5)] → W p l e rm_X12_ocean s m args below meth c H locs 0 0 (MQ below (CQ D (some (.int o_r)) (w_X12_ocean a0 q_text q_depths q_tune q_far q_books q_told q_years q_months q_ring q_woods q_ends q_wood q_sheets q_marsh q_oldest q_youngest q_knowns q_known q_weight q_chance q_digs q_draft q_isKept cA s_trace o_typed s_earliest s_latest s_firstYear s_rings s_text o_depths) A) args s 0 0 A) (F0 m 93 ls []) := by
  obtain ⟨hx, hb, hml, hown, hts, hr, hlocks, hX⟩ := C0
  have hK := hX.1
  have hN := hX.2
  intro x1 x3 x4 x5 s_typed s_depths hf H locs hP hD hS ls hl
  unfold f_X12_ocean_93 at hf
  refine lv_iconst (v := (0 : Int32)) hx hb dX12_ocean_93 (by decide) ?_
  exact k_X12_ocean_94 ⟨hx, hb, hml, hown, hts, hr, hlocks, hX⟩ hA hr7 x1 x3 x4 x5 (0 : Int32) s_typed s_depths hf _ _ hP hD hS ls (lv_sub hl [0, 1, 2, 3, 4] rfl)

def f_X12_ocean_89 (r7 : (Int32) → (Int32) → (Int32) → (Int32) → (Nat → Int32) → Option ((Int32) × (Int32) × (Nat → Int32))) (s_text : Nat → Int32) (x1 : Int32) (x3 : Int32) (x4 : Int32) (x5 : Int32) (s_typed : Int32) (s_depths : Nat → Int32) : Option ((Int32) × (Int32) × (Nat → Int32)) :=
  f_X12_ocean_94 r7 s_text x1 x3 x4 x5 (1 : Int32) s_typed s_depths

set_option maxRecDepth 100000 in
set_option maxHeartbeats 4000000 in
theorem k_X12_ocean_89 {p : Program} {l : Launch} {e : Env} {s : State} {m : MethodId} {args : Array Value} {below : List Frame} {meth : Method} {c : Code} {A : Nat → Prop} {D : va_G} {cA : Nat → ClassId} (C0 : MX p s m args meth c cX12_ocean 7 wsX12_ocean RX12 (some .int) D cA) (hA : ∀ q, s.heap.size ≤ q → A q) {a0 : Nat} {q_text : Nat} {q_depths : Nat} {q_tune : Nat} {q_far : Nat} {q_books : Nat} {q_told : Nat} {q_years : Nat} {q_months : Nat} {q_ring : Nat} {q_woods : Nat} {q_ends : Nat} {q_wood : Nat} {q_sheets : Nat} {q_marsh : Nat} {q_oldest : Nat} {q_youngest : Nat} {q_knowns : Nat} {q_known : Nat} {q_weight : Nat} {q_chance : Nat} {q_digs : Nat} {q_draft : Nat} {q_isKept : Nat} {s_trace : Int64} {s_earliest : Int32} {s_latest : Int32} {s_firstYear : Int32} {s_rings : Int32} {s_text : Nat → Int32} {o_r : Int32} {o_typed : Int32} {o_depths : Nat → Int32} {r7 : (Int32) → (Int32) → (Int32) → (Int32) → (Nat → Int32) → Option ((Int32) × (Int32) × (Nat → Int32))} (hr7 : ∀ (x1 : Int32) (x2 : Int32) (x3 : Int32) (s_typed : Int32) (s_depths : Nat → Int32), r7 x1 x2 x3 s_typed s_depths = some (o_r, o_typed, o_depths) → ∀ (H : Heap) (locs : List Loc), va_P D vwCl (w_X12_ocean a0 q_text q_depths q_tune q_far q_books q_told q_years q_months q_ring q_woods q_ends q_wood q_sheets q_marsh q_oldest q_youngest q_knowns q_known q_weight q_chance q_digs q_draft q_isKept cA s_trace s_typed s_earliest s_latest s_firstYear s_rings s_text s_depths) H → va_D A (w_X12_ocean a0 q_text q_depths q_tune q_far q_books q_told q_years q_months q_ring q_woods q_ends q_wood q_sheets q_marsh q_oldest q_youngest q_knowns q_known q_weight q_chance q_digs q_draft q_isKept cA s_trace s_typed s_earliest s_latest s_firstYear s_rings s_text s_depths) → va_S A s.heap H locs → ∀ ls : Array Slot, lv_has ls 7 [(0, .ref a0), (1, .int x1), (2, .int x2), (3, .int x3)] → W p l e rm_X12_ocean s m args below meth c H locs 0 0 (MQ below (CQ D (some (.int o_r)) (w_X12_ocean a0 q_text q_depths q_tune q_far q_books q_told q_years q_months q_ring q_woods q_ends q_wood q_sheets q_marsh q_oldest q_youngest q_knowns q_known q_weight q_chance q_digs q_draft q_isKept cA s_trace o_typed s_earliest s_latest s_firstYear s_rings s_text o_depths) A) args s 0 0 A) (F0 m 7 ls [])) : ∀ (x1 : Int32) (x3 : Int32) (x4 : Int32) (x5 : Int32) (s_typed : Int32) (s_depths : Nat → Int32), f_X12_ocean_89 r7 s_text x1 x3 x4 x5 s_typed s_depths = some (o_r, o_typed, o_depths) → ∀ (H : Heap) (locs : List Loc), va_P D vwCl (w_X12_ocean a0 q_text q_depths q_tune q_far q_books q_told q_years q_months q_ring q_woods q_ends q_wood q_sheets q_marsh q_oldest q_youngest q_knowns q_known q_weight q_chance q_digs q_draft q_isKept cA s_trace s_typed s_earliest s_latest s_firstYear s_rings s_text s_depths) H → va_D A (w_X12_ocean a0 q_text q_depths q_tune q_far q_books q_told q_years q_months q_ring q_woods q_ends q_wood q_sheets q_marsh q_oldest q_youngest q_knowns q_known q_weight q_chance q_digs q_draft q_isKept cA s_trace s_typed s_earliest s_latest s_firstYear s_rings s_text s_depths) → va_S A s.heap H locs → ∀ ls : Array Slot, lv_has ls 7 [(0, .ref a0), (1, .int x1), (3, .int x3), (4, .int x4), (5, .int x5)] → W p l e rm_X12_ocean s m args below meth c H locs 0 0 (MQ below (CQ D (some (.int o_r)) (w_X12_ocean a0 q_text q_depths q_tune q_far q_books q_told q_years q_months q_ring q_woods q_ends q_wood q_sheets q_marsh q_oldest q_youngest q_knowns q_known q_weight q_chance q_digs q_draft q_isKept cA s_trace o_typed s_earliest s_latest s_firstYear s_rings s_text o_depths) A) args s 0 0 A) (F0 m 89 ls []) := by
  obtain ⟨hx, hb, hml, hown, hts, hr, hlocks, hX⟩ := C0
  have hK := hX.1
  have hN := hX.2
  intro x1 x3 x4 x5 s_typed s_depths hf H locs hP hD hS ls hl
  unfold f_X12_ocean_89 at hf
  refine lv_iconst (v := (1 : Int32)) hx hb dX12_ocean_89 (by decide) ?_
  refine lv_goto (tgt := 94) hx hb dX12_ocean_90 (by decide) ?_
  exact k_X12_ocean_94 ⟨hx, hb, hml, hown, hts, hr, hlocks, hX⟩ hA hr7 x1 x3 x4 x5 (1 : Int32) s_typed s_depths hf _ _ hP hD hS ls (lv_sub hl [0, 1, 2, 3, 4] rfl)

def f_X12_ocean_54 (r7 : (Int32) → (Int32) → (Int32) → (Int32) → (Nat → Int32) → Option ((Int32) × (Int32) × (Nat → Int32))) (s_text : Nat → Int32) (x1 : Int32) (x3 : Int32) (x4 : Int32) (z0 : Int32) (s_typed : Int32) (s_depths : Nat → Int32) : Option ((Int32) × (Int32) × (Nat → Int32)) :=
  pbr ((54 : Int32) ≤ x1)
    (f_X12_ocean_93 r7 s_text x1 x3 x4 z0 s_typed s_depths)
    (pbr (z0 = 0)
      (pcl (f_X12_in x4 (48 : Int32) (57 : Int32)) (fun r_3 => (
      pbr (r_3 = 0)
        (f_X12_ocean_93 r7 s_text x1 x3 x4 z0 s_typed s_depths)
        (f_X12_ocean_89 r7 s_text x1 x3 x4 z0 s_typed s_depths))))
      (pbr (x4 = (59 : Int32))
        (f_X12_ocean_89 r7 s_text x1 x3 x4 z0 s_typed s_depths)
        (f_X12_ocean_93 r7 s_text x1 x3 x4 z0 s_typed s_depths)))

set_option maxRecDepth 100000 in
set_option maxHeartbeats 4000000 in
theorem k_X12_ocean_54 {p : Program} {l : Launch} {e : Env} {s : State} {m : MethodId} {args : Array Value} {below : List Frame} {meth : Method} {c : Code} {A : Nat → Prop} {D : va_G} {cA : Nat → ClassId} (C0 : MX p s m args meth c cX12_ocean 7 wsX12_ocean RX12 (some .int) D cA) (hA : ∀ q, s.heap.size ≤ q → A q) {a0 : Nat} {q_text : Nat} {q_depths : Nat} {q_tune : Nat} {q_far : Nat} {q_books : Nat} {q_told : Nat} {q_years : Nat} {q_months : Nat} {q_ring : Nat} {q_woods : Nat} {q_ends : Nat} {q_wood : Nat} {q_sheets : Nat} {q_marsh : Nat} {q_oldest : Nat} {q_youngest : Nat} {q_knowns : Nat} {q_known : Nat} {q_weight : Nat} {q_chance : Nat} {q_digs : Nat} {q_draft : Nat} {q_isKept : Nat} {s_trace : Int64} {s_earliest : Int32} {s_latest : Int32} {s_firstYear : Int32} {s_rings : Int32} {s_text : Nat → Int32} {o_r : Int32} {o_typed : Int32} {o_depths : Nat → Int32} {r7 : (Int32) → (Int32) → (Int32) → (Int32) → (Nat → Int32) → Option ((Int32) × (Int32) × (Nat → Int32))} (hr7 : ∀ (x1 : Int32) (x2 : Int32) (x3 : Int32) (s_typed : Int32) (s_depths : Nat → Int32), r7 x1 x2 x3 s_typed s_depths = some (o_r, o_typed, o_depths) → ∀ (H : Heap) (locs : List Loc), va_P D vwCl (w_X12_ocean a0 q_text q_depths q_tune q_far q_books q_told q_years q_months q_ring q_woods q_ends q_wood q_sheets q_marsh q_oldest q_youngest q_knowns q_known q_weight q_chance q_digs q_draft q_isKept cA s_trace s_typed s_earliest s_latest s_firstYear s_rings s_text s_depths) H → va_D A (w_X12_ocean a0 q_text q_depths q_tune q_far q_books q_told q_years q_months q_ring q_woods q_ends q_wood q_sheets q_marsh q_oldest q_youngest q_knowns q_known q_weight q_chance q_digs q_draft q_isKept cA s_trace s_typed s_earliest s_latest s_firstYear s_rings s_text s_depths) → va_S A s.heap H locs → ∀ ls : Array Slot, lv_has ls 7 [(0, .ref a0), (1, .int x1), (2, .int x2), (3, .int x3)] → W p l e rm_X12_ocean s m args below meth c H locs 0 0 (MQ below (CQ D (some (.int o_r)) (w_X12_ocean a0 q_text q_depths q_tune q_far q_books q_told q_years q_months q_ring q_woods q_ends q_wood q_sheets q_marsh q_oldest q_youngest q_knowns q_known q_weight q_chance q_digs q_draft q_isKept cA s_trace o_typed s_earliest s_latest s_firstYear s_rings s_text o_depths) A) args s 0 0 A) (F0 m 7 ls [])) : ∀ (x1 : Int32) (x3 : Int32) (x4 : Int32) (z0 : Int32) (s_typed : Int32) (s_depths : Nat → Int32), f_X12_ocean_54 r7 s_text x1 x3 x4 z0 s_typed s_depths = some (o_r, o_typed, o_depths) → ∀ (H : Heap) (locs : List Loc), va_P D vwCl (w_X12_ocean a0 q_text q_depths q_tune q_far q_books q_told q_years q_months q_ring q_woods q_ends q_wood q_sheets q_marsh q_oldest q_youngest q_knowns q_known q_weight q_chance q_digs q_draft q_isKept cA s_trace s_typed s_earliest s_latest s_firstYear s_rings s_text s_depths) H → va_D A (w_X12_ocean a0 q_text q_depths q_tune q_far q_books q_told q_years q_months q_ring q_woods q_ends q_wood q_sheets q_marsh q_oldest q_youngest q_knowns q_known q_weight q_chance q_digs q_draft q_isKept cA s_trace s_typed s_earliest s_latest s_firstYear s_rings s_text s_depths) → va_S A s.heap H locs → ∀ ls : Array Slot, lv_has ls 7 [(0, .ref a0), (1, .int x1), (3, .int x3), (4, .int x4)] → W p l e rm_X12_ocean s m args below meth c H locs 0 0 (MQ below (CQ D (some (.int o_r)) (w_X12_ocean a0 q_text q_depths q_tune q_far q_books q_told q_years q_months q_ring q_woods q_ends q_wood q_sheets q_marsh q_oldest q_youngest q_knowns q_known q_weight q_chance q_digs q_draft q_isKept cA s_trace o_typed s_earliest s_latest s_firstYear s_rings s_text o_depths) A) args s 0 0 A) (F0 m 54 ls [.int z0]) := by
  obtain ⟨hx, hb, hml, hown, hts, hr, hlocks, hX⟩ := C0
  have hK := hX.1
  have hN := hX.2
  intro x1 x3 x4 z0 s_typed s_depths hf H locs hP hD hS ls hl
  unfold f_X12_ocean_54 at hf
  refine lv_istore (lv' := [(5, .int z0), (0, .ref a0), (1, .int x1), (3, .int x3), (4, .int x4)]) hx hb dX12_ocean_54 hl (by decide) rfl (fun ls hl => ?_)
  refine lv_iload_n hx hb dX12_ocean_56 rfl (lv_at hl 2 rfl) ?_
  refine lv_bipush (v := (54 : Int32)) hx hb dX12_ocean_57 (by decide) ?_
  refine lv_icmp_ge (tgt := 93) hx hb dX12_ocean_59 (by decide) (fun c_1 => ?_) (fun c_1 => ?_)
  · have hf := pbr_t c_1 hf
    exact k_X12_ocean_93 ⟨hx, hb, hml, hown, hts, hr, hlocks, hX⟩ hA hr7 x1 x3 x4 z0 s_typed s_depths hf _ _ hP hD hS ls (lv_sub hl [1, 2, 3, 4, 0] rfl)
  have hf := pbr_f c_1 hf
  refine lv_iload hx hb dX12_ocean_62 (lv_at hl 0 rfl) ?_
  refine lv_if_eq (tgt := 77) hx hb dX12_ocean_64 (by decide) (fun c_2 => ?_) (fun c_2 => ?_)
  · have hf := pbr_t c_2 hf
    refine lv_iload hx hb dX12_ocean_77 (lv_at hl 4 rfl) ?_
    refine lv_bipush (v := (48 : Int32)) hx hb dX12_ocean_79 (by decide) ?_
    refine lv_bipush (v := (57 : Int32)) hx hb dX12_ocean_81 (by decide) ?_
    obtain ⟨r_3, hc_4, hf⟩ := pcl_e hf
    refine m_callS2 (As := [.int x4, .int (48 : Int32), .int (57 : Int32)]) (rest := []) ⟨hx, hb, hml, hown, hts⟩ hX (ct_X12_in l D cA x4 (48 : Int32) (57 : Int32) r_3 hc_4) (va_cwS 3 hts gX12_ocean_X12_in rfl rfl rfl (by decide +kernel) ⟨Nat.le_of_ble_eq_true rfl, Nat.le_of_ble_eq_true rfl⟩) hP hD hS hA [] [0, 1, 2] 3 (by decide) rfl rfl (WS' := (w_X12_ocean a0 q_text q_depths q_tune q_far q_books q_told q_years q_months q_ring q_woods q_ends q_wood q_sheets q_marsh q_oldest q_youngest q_knowns q_known q_weight q_chance q_digs q_draft q_isKept cA s_trace s_typed s_earliest s_latest s_firstYear s_rings s_text s_depths)) (WR := [(a0, .inr (12, [.long s_trace, .ref q_text, .int s_typed, .ref q_depths, .ref q_tune, .ref q_far, .ref q_books, .ref q_told, .int s_earliest, .int s_latest, .ref q_years, .ref q_months, .int s_firstYear, .int s_rings, .ref q_ring, .ref q_woods, .ref q_ends, .ref q_wood, .ref q_sheets, .ref q_marsh, .ref q_oldest, .ref q_youngest, .ref q_knowns, .ref q_known, .ref q_weight, .ref q_chance, .ref q_digs, .ref q_draft, .ref q_isKept])), (q_text, .inl (cA 0, 400, .inl s_text)), (q_depths, .inl (cA 1, 96, .inl s_depths))]) rfl rfl rfl rfl (by decide) (by decide) rfl hl.1 rfl (st' := [.int r_3]) rfl (Nat.le_of_ble_eq_true rfl) ⟨Nat.zero_le _, Nat.zero_le _⟩ dX12_ocean_83 (fun H locs hP hD hS => ?_)
    refine lv_if_eq (tgt := 93) hx hb dX12_ocean_86 (by decide) (fun c_5 => ?_) (fun c_5 => ?_)
    · have hf := pbr_t c_5 hf
      exact k_X12_ocean_93 ⟨hx, hb, hml, hown, hts, hr, hlocks, hX⟩ hA hr7 x1 x3 x4 z0 s_typed s_depths hf _ _ hP hD hS ls (lv_sub hl [1, 2, 3, 4, 0] rfl)
    have hf := pbr_f c_5 hf
    exact k_X12_ocean_89 ⟨hx, hb, hml, hown, hts, hr, hlocks, hX⟩ hA hr7 x1 x3 x4 z0 s_typed s_depths hf _ _ hP hD hS ls (lv_sub hl [1, 2, 3, 4, 0] rfl)
  have hf := pbr_f c_2 hf
  refine lv_iload hx hb dX12_ocean_67 (lv_at hl 4 rfl) ?_
  refine lv_bipush (v := (59 : Int32)) hx hb dX12_ocean_69 (by decide) ?_
  refine lv_icmp_ne (tgt := 93) hx hb dX12_ocean_71 (by decide) (fun c_6 => ?_) (fun c_6 => ?_)
  · have hf := pbr_f c_6 hf
    exact k_X12_ocean_93 ⟨hx, hb, hml, hown, hts, hr, hlocks, hX⟩ hA hr7 x1 x3 x4 z0 s_typed s_depths hf _ _ hP hD hS ls (lv_sub hl [1, 2, 3, 4, 0] rfl)
  have hf := pbr_t c_6 hf
  refine lv_goto (tgt := 89) hx hb dX12_ocean_74 (by decide) ?_
  exact k_X12_ocean_89 ⟨hx, hb, hml, hown, hts, hr, hlocks, hX⟩ hA hr7 x1 x3 x4 z0 s_typed s_depths hf _ _ hP hD hS ls (lv_sub hl [1, 2, 3, 4, 0] rfl)

def f_X12_ocean_7 (s_text : Nat → Int32) : Nat → (Int32) → (Int32) → (Int32) → (Int32) → (Nat → Int32) → Option ((Int32) × (Int32) × (Nat → Int32))
  | 0, _, _, _, _, _ => none
  | k + 1, x1, x2, x3, s_typed, s_depths =>
    pbr (s_typed ≤ x3)
      (f_X12_ocean_152 s_text x1 x2 s_typed s_depths)
      (pbr (x2 = (-9 : Int32))
        (pgd (pin x3 400) (
        plt (((s_text x3.toNatClampNeg) &&& (255 : Int32)) : Int32) (fun x4_4 => (
        pbr (x4_4 = (32 : Int32))
          (plt (x3 + (1 : Int32) : Int32) (fun x3_6 => (
          (f_X12_ocean_7 s_text k) x1 x2 x3_6 s_typed s_depths)))
          (pbr ((x1 - x1 / (9 : Int32) * (9 : Int32)) = (8 : Int32))
            (f_X12_ocean_54 (f_X12_ocean_7 s_text k) s_text x1 x3 x4_4 (1 : Int32) s_typed s_depths)
            (f_X12_ocean_54 (f_X12_ocean_7 s_text k) s_text x1 x3 x4_4 (0 : Int32) s_typed s_depths))))))
        (f_X12_ocean_152 s_text x1 x2 s_typed s_depths))

set_option maxRecDepth 100000 in
set_option maxHeartbeats 4000000 in
theorem k_X12_ocean_7 {p : Program} {l : Launch} {e : Env} {s : State} {m : MethodId} {args : Array Value} {below : List Frame} {meth : Method} {c : Code} {A : Nat → Prop} {D : va_G} {cA : Nat → ClassId} (C0 : MX p s m args meth c cX12_ocean 7 wsX12_ocean RX12 (some .int) D cA) (hA : ∀ q, s.heap.size ≤ q → A q) {a0 : Nat} {q_text : Nat} {q_depths : Nat} {q_tune : Nat} {q_far : Nat} {q_books : Nat} {q_told : Nat} {q_years : Nat} {q_months : Nat} {q_ring : Nat} {q_woods : Nat} {q_ends : Nat} {q_wood : Nat} {q_sheets : Nat} {q_marsh : Nat} {q_oldest : Nat} {q_youngest : Nat} {q_knowns : Nat} {q_known : Nat} {q_weight : Nat} {q_chance : Nat} {q_digs : Nat} {q_draft : Nat} {q_isKept : Nat} {s_trace : Int64} {s_earliest : Int32} {s_latest : Int32} {s_firstYear : Int32} {s_rings : Int32} {s_text : Nat → Int32} {o_r : Int32} {o_typed : Int32} {o_depths : Nat → Int32} : ∀ (k : Nat) (x1 : Int32) (x2 : Int32) (x3 : Int32) (s_typed : Int32) (s_depths : Nat → Int32), f_X12_ocean_7 s_text k x1 x2 x3 s_typed s_depths = some (o_r, o_typed, o_depths) → ∀ (H : Heap) (locs : List Loc), va_P D vwCl (w_X12_ocean a0 q_text q_depths q_tune q_far q_books q_told q_years q_months q_ring q_woods q_ends q_wood q_sheets q_marsh q_oldest q_youngest q_knowns q_known q_weight q_chance q_digs q_draft q_isKept cA s_trace s_typed s_earliest s_latest s_firstYear s_rings s_text s_depths) H → va_D A (w_X12_ocean a0 q_text q_depths q_tune q_far q_books q_told q_years q_months q_ring q_woods q_ends q_wood q_sheets q_marsh q_oldest q_youngest q_knowns q_known q_weight q_chance q_digs q_draft q_isKept cA s_trace s_typed s_earliest s_latest s_firstYear s_rings s_text s_depths) → va_S A s.heap H locs → ∀ ls : Array Slot, lv_has ls 7 [(0, .ref a0), (1, .int x1), (2, .int x2), (3, .int x3)] → W p l e rm_X12_ocean s m args below meth c H locs 0 0 (MQ below (CQ D (some (.int o_r)) (w_X12_ocean a0 q_text q_depths q_tune q_far q_books q_told q_years q_months q_ring q_woods q_ends q_wood q_sheets q_marsh q_oldest q_youngest q_knowns q_known q_weight q_chance q_digs q_draft q_isKept cA s_trace o_typed s_earliest s_latest s_firstYear s_rings s_text o_depths) A) args s 0 0 A) (F0 m 7 ls []) := by
  obtain ⟨hx, hb, hml, hown, hts, hr, hlocks, hX⟩ := C0
  have hK := hX.1
  have hN := hX.2
  intro k
  induction k with
  | zero =>
    intro x1 x2 x3 s_typed s_depths hf
    cases hf
  | succ k ih =>
    intro x1 x2 x3 s_typed s_depths hf H locs hP hD hS ls hl
    rw [f_X12_ocean_7] at hf
    refine lv_iload_n hx hb dX12_ocean_7 rfl (lv_at hl 3 rfl) ?_
    refine lv_aload_n hx hb dX12_ocean_8 rfl (lv_at hl 0 rfl) ?_
    refine va_get (D := D) (ci := 12) (v := .int s_typed) (C := RX12) (T := TX12) (N := 29) hx hb hts hn_X12_ocean_X12 hown hK hP 0 rfl rfl 2 (by decide) (hts _ hw_X12_ocean_f90) (fun _ h9 => h9) rfl dX12_ocean_9 ?_
    refine lv_icmp_ge (tgt := 152) hx hb dX12_ocean_12 (by decide) (fun c_1 => ?_) (fun c_1 => ?_)
    · have hf := pbr_t c_1 hf
      exact k_X12_ocean_152 ⟨hx, hb, hml, hown, hts, hr, hlocks, hX⟩ hA x1 x2 s_typed s_depths hf _ _ hP hD hS ls (lv_sub hl [0, 1, 2] rfl)
    have hf := pbr_f c_1 hf
    refine lv_iload_n hx hb dX12_ocean_15 rfl (lv_at hl 2 rfl) ?_
    refine lv_bipush (v := (-9 : Int32)) hx hb dX12_ocean_16 (by decide) ?_
    refine lv_icmp_ne (tgt := 152) hx hb dX12_ocean_18 (by decide) (fun c_2 => ?_) (fun c_2 => ?_)
    · have hf := pbr_f c_2 hf
      exact k_X12_ocean_152 ⟨hx, hb, hml, hown, hts, hr, hlocks, hX⟩ hA x1 x2 s_typed s_depths hf _ _ hP hD hS ls (lv_sub hl [0, 1, 2] rfl)
    have hf := pbr_t c_2 hf
    refine lv_aload_n hx hb dX12_ocean_21 rfl (lv_at hl 0 rfl) ?_
    refine va_get (D := D) (ci := 12) (v := .ref q_text) (C := RX12) (T := TX12) (N := 29) hx hb hts hn_X12_ocean_X12 hown hK hP 0 rfl rfl 1 (by decide) (hts _ hw_X12_ocean_f7) (fun _ h9 => h9) rfl dX12_ocean_22 ?_
    refine lv_iload_n hx hb dX12_ocean_25 rfl (lv_at hl 3 rfl) ?_
    obtain ⟨g_3, hf⟩ := pgd_e hf
    refine va_bald hx hb hK hP 1 0 rfl rfl g_3 dX12_ocean_26 ?_
    refine lv_sipush (v := (255 : Int32)) hx hb dX12_ocean_27 (by decide) ?_
    refine lv_iand hx hb dX12_ocean_30 ?_
    refine lv_topi (fun x4_4 ex4_4 => ?_)
    have hf := plt_e ex4_4 hf
    refine lv_istore (lv' := [(4, .int x4_4), (0, .ref a0), (1, .int x1), (2, .int x2), (3, .int x3)]) hx hb dX12_ocean_31 hl (by decide) rfl (fun ls hl => ?_)
    refine lv_iload hx hb dX12_ocean_33 (lv_at hl 0 rfl) ?_
    refine lv_bipush (v := (32 : Int32)) hx hb dX12_ocean_35 (by decide) ?_
    refine lv_icmp_eq (tgt := 146) hx hb dX12_ocean_37 (by decide) (fun c_5 => ?_) (fun c_5 => ?_)
    · have hf := pbr_t c_5 hf
      obtain ⟨x3_6, ex3_6⟩ : ∃ z : Int32, z = x3 + (1 : Int32) := ⟨_, rfl⟩
      have hf := plt_e ex3_6 hf
      refine lv_iinc (v := x3_6) (lv' := [(3, .int x3_6), (4, .int x4_4), (0, .ref a0), (1, .int x1), (2, .int x2)]) hx hb dX12_ocean_146 hl (k := 4) rfl (by rw [ex3_6]; rfl) (by decide) rfl (fun ls hl => ?_)
      refine lv_goto (tgt := 7) hx hb dX12_ocean_149 (by decide) ?_
      exact ih x1 x2 x3_6 s_typed s_depths hf _ _ hP hD hS ls (lv_sub hl [2, 3, 4, 0] rfl)
    have hf := pbr_f c_5 hf
    refine lv_iload_n hx hb dX12_ocean_40 rfl (lv_at hl 2 rfl) ?_
    refine lv_bipush (v := (9 : Int32)) hx hb dX12_ocean_41 (by decide) ?_
    refine lv_irem hx hb dX12_ocean_43 (by decide) ?_
    refine lv_bipush (v := (8 : Int32)) hx hb dX12_ocean_44 (by decide) ?_
    refine lv_icmp_ne (tgt := 53) hx hb dX12_ocean_46 (by decide) (fun c_7 => ?_) (fun c_7 => ?_)
    · have hf := pbr_f c_7 hf
      refine lv_iconst (v := (0 : Int32)) hx hb dX12_ocean_53 (by decide) ?_
      exact k_X12_ocean_54 ⟨hx, hb, hml, hown, hts, hr, hlocks, hX⟩ hA ih x1 x3 x4_4 (0 : Int32) s_typed s_depths hf _ _ hP hD hS ls (lv_sub hl [1, 2, 4, 0] rfl)
    have hf := pbr_t c_7 hf
    refine lv_iconst (v := (1 : Int32)) hx hb dX12_ocean_49 (by decide) ?_
    refine lv_goto (tgt := 54) hx hb dX12_ocean_50 (by decide) ?_
    exact k_X12_ocean_54 ⟨hx, hb, hml, hown, hts, hr, hlocks, hX⟩ hA ih x1 x3 x4_4 (1 : Int32) s_typed s_depths hf _ _ hP hD hS ls (lv_sub hl [1, 2, 4, 0] rfl)

def f_X12_ocean (s_typed : Int32) (s_text : Nat → Int32) (s_depths : Nat → Int32) : Option ((Int32) × (Int32) × (Nat → Int32)) :=
  f_X12_ocean_7 s_text FU (0 : Int32) (-9 : Int32) (0 : Int32) s_typed s_depths

set_option maxRecDepth 100000 in
set_option maxHeartbeats 4000000 in
theorem ct_X12_ocean (l : Launch) (D : va_G) (cA : Nat → ClassId) (a0 : Nat) (q_text : Nat) (q_depths : Nat) (q_tune : Nat) (q_far : Nat) (q_books : Nat) (q_told : Nat) (q_years : Nat) (q_months : Nat) (q_ring : Nat) (q_woods : Nat) (q_ends : Nat) (q_wood : Nat) (q_sheets : Nat) (q_marsh : Nat) (q_oldest : Nat) (q_youngest : Nat) (q_knowns : Nat) (q_known : Nat) (q_weight : Nat) (q_chance : Nat) (q_digs : Nat) (q_draft : Nat) (q_isKept : Nat) (s_trace : Int64) (s_typed : Int32) (s_earliest : Int32) (s_latest : Int32) (s_firstYear : Int32) (s_rings : Int32) (s_text : Nat → Int32) (s_depths : Nat → Int32) (o_r : Int32) (o_typed : Int32) (o_depths : Nat → Int32) (hf : f_X12_ocean s_typed s_text s_depths = some (o_r, o_typed, o_depths)) : CT l yX12_ocean wsX12_ocean rm_X12_ocean D cA [.ref a0] (w_X12_ocean a0 q_text q_depths q_tune q_far q_books q_told q_years q_months q_ring q_woods q_ends q_wood q_sheets q_marsh q_oldest q_youngest q_knowns q_known q_weight q_chance q_digs q_draft q_isKept cA s_trace s_typed s_earliest s_latest s_firstYear s_rings s_text s_depths) (w_X12_ocean a0 q_text q_depths q_tune q_far q_books q_told q_years q_months q_ring q_woods q_ends q_wood q_sheets q_marsh q_oldest q_youngest q_knowns q_known q_weight q_chance q_digs q_draft q_isKept cA s_trace o_typed s_earliest s_latest s_firstYear s_rings s_text o_depths) (some (.int o_r)) := by
  refine CT.ofW (cc := cX12_ocean) (maxL := 7) (ret := (some .int)) (by decide +kernel) rfl (Nat.le_of_ble_eq_true rfl) ?_
  intro p e s m below meth c A C0 hA hP hD ls hl
  have C0 : MX p s m [.ref a0].toArray meth c cX12_ocean 7 wsX12_ocean RX12 (some .int) D cA := C0
  have hl : lv_has ls 7 [(0, .ref a0)] := hl
  obtain ⟨hx, hb, hml, hown, hts, hr, hlocks, hX⟩ := id C0
  have hK := hX.1
  have hN := hX.2
  have hS : va_S A s.heap s.heap [] := va_S.rf
  unfold f_X12_ocean at hf
  refine lv_iconst (v := (0 : Int32)) hx hb dX12_ocean_0 (by decide) ?_
  refine lv_istore_n (lv' := [(1, .int (0 : Int32)), (0, .ref a0)]) hx hb dX12_ocean_1 rfl hl (by decide) rfl (fun ls hl => ?_)
  refine lv_bipush (v := (-9 : Int32)) hx hb dX12_ocean_2 (by decide) ?_
  refine lv_istore_n (lv' := [(2, .int (-9 : Int32)), (1, .int (0 : Int32)), (0, .ref a0)]) hx hb dX12_ocean_4 rfl hl (by decide) rfl (fun ls hl => ?_)
  refine lv_iconst (v := (0 : Int32)) hx hb dX12_ocean_5 (by decide) ?_
  refine lv_istore_n (lv' := [(3, .int (0 : Int32)), (2, .int (-9 : Int32)), (1, .int (0 : Int32)), (0, .ref a0)]) hx hb dX12_ocean_6 rfl hl (by decide) rfl (fun ls hl => ?_)
  exact k_X12_ocean_7 C0 hA FU (0 : Int32) (-9 : Int32) (0 : Int32) s_typed s_depths hf _ _ hP hD hS ls (lv_sub hl [3, 2, 1, 0] rfl)
