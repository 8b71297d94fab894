/-! ===== OrphanWaveModel.believed(II)J ===== -/
abbrev rm_X12_believed : Room := { frames := 2, cells := 0, slots := 0, locals := 55 }
abbrev w_X12_believed (a0 : Nat) (q_weight : Nat) (q_text : Nat) (q_depths : Nat) (q_tune : Nat) (q_far : Nat) (q_books : Nat) (q_told : Nat) (q_years : Nat) (q_months : Nat) (q_ring : Nat) (q_woods : Nat) (q_ends : Nat) (q_wood : Nat) (q_sheets : Nat) (q_marsh : Nat) (q_oldest : Nat) (q_youngest : Nat) (q_knowns : Nat) (q_known : Nat) (q_chance : Nat) (q_digs : Nat) (q_draft : Nat) (q_isKept : Nat) (cA : Nat → ClassId) (s_trace : Int64) (s_typed : Int32) (s_earliest : Int32) (s_latest : Int32) (s_firstYear : Int32) (s_rings : Int32) (s_weight : Nat → Int64) : va_W := [(a0, .inr (12, [.long s_trace, .ref q_text, .int s_typed, .ref q_depths, .ref q_tune, .ref q_far, .ref q_books, .ref q_told, .int s_earliest, .int s_latest, .ref q_years, .ref q_months, .int s_firstYear, .int s_rings, .ref q_ring, .ref q_woods, .ref q_ends, .ref q_wood, .ref q_sheets, .ref q_marsh, .ref q_oldest, .ref q_youngest, .ref q_knowns, .ref q_known, .ref q_weight, .ref q_chance, .ref q_digs, .ref q_draft, .ref q_isKept])), (q_weight, .inl (cA 2, 15, .inr (.inl s_weight)))]
theorem hn_X12_believed_X12 : ∀ w ∈ u_ws RX12 TX12 29, w ∈ wsX12_believed := by decide +kernel
theorem hw_X12_believed_c170 : Cond.constantLong RX12 170 (-1) ∈ wsX12_believed := by decide +kernel
theorem hw_X12_believed_f65 : Cond.fieldLink RX12 65 "OrphanWaveModel" "weight" "[J" ∈ wsX12_believed := by decide +kernel

def f_X12_believed_25 (s_weight : Nat → Int64) (x1 : Int32) (x2 : Int32) : Nat → (Int64) → (Int32) → Option ((Int64))
  | 0, _, _ => none
  | k + 1, x3, x5 =>
    pbr ((5 : Int32) ≤ x5)
      (pbr ((lg_cmp x3 (0 : Int64)) = 0)
        (some (x2.toInt64))
        (pgd (pin x1 15) (
        pcl (f_X12_inLeast (s_weight x1.toNatClampNeg) x3 x2) (fun r_4 => (
        some (r_4))))))
      (pgd (pin x5 15) (
      plt ((x3 + (s_weight x5.toNatClampNeg)) : Int64) (fun x3_7 => (
      plt (x5 + (1 : Int32) : Int32) (fun x5_8 => (
      (f_X12_believed_25 s_weight x1 x2 k) x3_7 x5_8))))))

set_option maxRecDepth 100000 in
set_option maxHeartbeats 4000000 in
theorem k_X12_believed_25 {p : Program} {l : Launch} {e : Env} {s : State} {m : MethodId} {args : Array Value} {below : List Frame} {meth : Method} {c : Code} {A : Nat → Prop} {D : va_G} {cA : Nat → ClassId} (C0 : MX p s m args meth c cX12_believed 6 wsX12_believed RX12 (some .long) D cA) (hA : ∀ q, s.heap.size ≤ q → A q) {a0 : Nat} {q_weight : Nat} {q_text : Nat} {q_depths : Nat} {q_tune : Nat} {q_far : Nat} {q_books : Nat} {q_told : Nat} {q_years : Nat} {q_months : Nat} {q_ring : Nat} {q_woods : Nat} {q_ends : Nat} {q_wood : Nat} {q_sheets : Nat} {q_marsh : Nat} {q_oldest : Nat} {q_youngest : Nat} {q_knowns : Nat} {q_known : Nat} {q_chance : Nat} {q_digs : Nat} {q_draft : Nat} {q_isKept : Nat} {s_trace : Int64} {s_typed : Int32} {s_earliest : Int32} {s_latest : Int32} {s_firstYear : Int32} {s_rings : Int32} {s_weight : Nat → Int64} {x1 : Int32} {x2 : Int32} {o_r : Int64} : ∀ (k : Nat) (x3 : Int64) (x5 : Int32), f_X12_believed_25 s_weight x1 x2 k x3 x5 = some o_r → ∀ (H : Heap) (locs : List Loc), va_P D vwCl (w_X12_believed a0 q_weight q_text q_depths q_tune q_far q_books q_told q_years q_months q_ring q_woods q_ends q_wood q_sheets q_marsh q_oldest q_youngest q_knowns q_known q_chance q_digs q_draft q_isKept cA s_trace s_typed s_earliest s_latest s_firstYear s_rings s_weight) H → va_D A (w_X12_believed a0 q_weight q_text q_depths q_tune q_far q_books q_told q_years q_months q_ring q_woods q_ends q_wood q_sheets q_marsh q_oldest q_youngest q_knowns q_known q_chance q_digs q_draft q_isKept cA s_trace s_typed s_earliest s_latest s_firstYear s_rings s_weight) → va_S A s.heap H locs → ∀ ls : Array Slot, lv_has ls 6 [(0, .ref a0), (1, .int x1), (2, .int x2), (3, .long x3), (5, .int x5)] → W p l e rm_X12_believed s m args below meth c H locs 0 0 (MQ below (CQ D (some (.long o_r)) (w_X12_believed a0 q_weight q_text q_depths q_tune q_far q_books q_told q_years q_months q_ring q_woods q_ends q_wood q_sheets q_marsh q_oldest q_youngest q_knowns q_known q_chance q_digs q_draft q_isKept cA s_trace s_typed s_earliest s_latest s_firstYear s_rings s_weight) A) args s 0 0 A) (F0 m 25 ls []) := by
  obtain ⟨hx, hb, hml, hown, hts, hr, hlocks, hX⟩ := C0
  have hK := hX.1
  have hN := hX.2
  intro k
  induction k with
  | zero =>
    intro x3 x5 hf
    cases hf
  | succ k ih =>
    intro x3 x5 hf H locs hP hD hS ls hl
    rw [f_X12_believed_25] at hf
    refine lv_iload hx hb dX12_believed_25 (lv_at hl 4 rfl) ?_
    refine lv_iconst (v := (5 : Int32)) hx hb dX12_believed_27 (by decide) ?_
    refine lv_icmp_ge (tgt := 47) hx hb dX12_believed_28 (by decide) (fun c_1 => ?_) (fun c_1 => ?_)
    · have hf := pbr_t c_1 hf
      refine lv_lload_n hx hb dX12_believed_47 rfl (lv_at hl 3 rfl) ?_
      refine lv_lconst (v := (0 : Int64)) hx hb dX12_believed_48 (by decide) ?_
      refine W.lcmp hx hb dX12_believed_49 ?_
      refine lv_if_ne (tgt := 58) hx hb dX12_believed_50 (by decide) (fun c_2 => ?_) (fun c_2 => ?_)
      · have hf := pbr_f c_2 hf
        refine lv_aload_n hx hb dX12_believed_58 rfl (lv_at hl 0 rfl) ?_
        refine va_get (D := D) (ci := 12) (v := .ref q_weight) (C := RX12) (T := TX12) (N := 29) hx hb hts hn_X12_believed_X12 hown hK hP 0 rfl rfl 24 (by decide) (hts _ hw_X12_believed_f65) (fun _ h9 => h9) rfl dX12_believed_59 ?_
        refine lv_iload_n hx hb dX12_believed_62 rfl (lv_at hl 1 rfl) ?_
        obtain ⟨g_3, hf⟩ := pgd_e hf
        refine va_lald hx hb hK hP 1 2 rfl rfl g_3 dX12_believed_63 ?_
        refine lv_lload_n hx hb dX12_believed_64 rfl (lv_at hl 3 rfl) ?_
        refine lv_iload_n hx hb dX12_believed_65 rfl (lv_at hl 2 rfl) ?_
        obtain ⟨r_4, hc_5, hf⟩ := pcl_e hf
        refine m_callS2 (As := [.long (s_weight x1.toNatClampNeg), .long x3, .int x2]) (rest := []) ⟨hx, hb, hml, hown, hts⟩ hX (ct_X12_inLeast l D cA (s_weight x1.toNatClampNeg) x3 x2 r_4 hc_5) (va_cwS 3 hts gX12_believed_X12_inLeast rfl rfl rfl (by decide +kernel) ⟨Nat.le_of_ble_eq_true rfl, Nat.le_of_ble_eq_true rfl⟩) hP hD hS hA [] [0, 1] 2 (by decide) rfl rfl (WS' := (w_X12_believed a0 q_weight q_text q_depths q_tune q_far q_books q_told q_years q_months q_ring q_woods q_ends q_wood q_sheets q_marsh q_oldest q_youngest q_knowns q_known q_chance q_digs q_draft q_isKept cA s_trace s_typed s_earliest s_latest s_firstYear s_rings s_weight)) (WR := [(a0, .inr (12, [.long s_trace, .ref q_text, .int s_typed, .ref q_depths, .ref q_tune, .ref q_far, .ref q_books, .ref q_told, .int s_earliest, .int s_latest, .ref q_years, .ref q_months, .int s_firstYear, .int s_rings, .ref q_ring, .ref q_woods, .ref q_ends, .ref q_wood, .ref q_sheets, .ref q_marsh, .ref q_oldest, .ref q_youngest, .ref q_knowns, .ref q_known, .ref q_weight, .ref q_chance, .ref q_digs, .ref q_draft, .ref q_isKept])), (q_weight, .inl (cA 2, 15, .inr (.inl s_weight)))]) rfl rfl rfl rfl (by decide) (by decide) rfl hl.1 rfl (st' := [.long r_4]) rfl (Nat.le_of_ble_eq_true rfl) ⟨Nat.zero_le _, Nat.zero_le _⟩ dX12_believed_66 (fun H locs hP hD hS => ?_)
        obtain rfl := pe1 hf
        exact m_lret hx hb hr hlocks hP hS dX12_believed_69
      have hf := pbr_t c_2 hf
      refine lv_iload_n hx hb dX12_believed_53 rfl (lv_at hl 2 rfl) ?_
      refine lv_i2l hx hb dX12_believed_54 rfl ?_
      refine lv_goto (tgt := 69) hx hb dX12_believed_55 (by decide) ?_
      obtain rfl := pe1 hf
      exact m_lret hx hb hr hlocks hP hS dX12_believed_69
    have hf := pbr_f c_1 hf
    refine lv_lload_n hx hb dX12_believed_31 rfl (lv_at hl 3 rfl) ?_
    refine lv_aload_n hx hb dX12_believed_32 rfl (lv_at hl 0 rfl) ?_
    refine va_get (D := D) (ci := 12) (v := .ref q_weight) (C := RX12) (T := TX12) (N := 29) hx hb hts hn_X12_believed_X12 hown hK hP 0 rfl rfl 24 (by decide) (hts _ hw_X12_believed_f65) (fun _ h9 => h9) rfl dX12_believed_33 ?_
    refine lv_iload hx hb dX12_believed_36 (lv_at hl 4 rfl) ?_
    obtain ⟨g_6, hf⟩ := pgd_e hf
    refine va_lald hx hb hK hP 1 2 rfl rfl g_6 dX12_believed_38 ?_
    refine lv_ladd hx hb dX12_believed_39 ?_
    refine lv_topl (fun x3_7 ex3_7 => ?_)
    have hf := plt_e ex3_7 hf
    refine lv_lstore_n (lv' := [(3, .long x3_7), (0, .ref a0), (1, .int x1), (2, .int x2), (5, .int x5)]) hx hb dX12_believed_40 rfl hl (by decide) rfl (fun ls hl => ?_)
    obtain ⟨x5_8, ex5_8⟩ : ∃ z : Int32, z = x5 + (1 : Int32) := ⟨_, rfl⟩
    have hf := plt_e ex5_8 hf
    refine lv_iinc (v := x5_8) (lv' := [(5, .int x5_8), (3, .long x3_7), (0, .ref a0), (1, .int x1), (2, .int x2)]) hx hb dX12_believed_41 hl (k := 4) rfl (by rw [ex5_8]; rfl) (by decide) rfl (fun ls hl => ?_)
    refine lv_goto (tgt := 25) hx hb dX12_believed_44 (by decide) ?_
    exact ih x3_7 x5_8 hf _ _ hP hD hS ls (lv_sub hl [2, 3, 4, 1, 0] rfl)

def f_X12_believed (x1 : Int32) (x2 : Int32) (s_weight : Nat → Int64) : Option ((Int64)) :=
  pcl (f_X12_isStory x1) (fun r_1 => (
  pbr (r_1 = 0)
    (some ((-1 : Int64)))
    (pcl (f_X12_in x2 (0 : Int32) (1 : Int32)) (fun r_4 => (
    pbr (r_4 = 0)
      (some ((-1 : Int64)))
      (f_X12_believed_25 s_weight x1 x2 FU (0 : Int64) (0 : Int32)))))))

set_option maxRecDepth 100000 in
set_option maxHeartbeats 4000000 in
theorem ct_X12_believed (l : Launch) (D : va_G) (cA : Nat → ClassId) (x1 : Int32) (x2 : Int32) (a0 : Nat) (q_weight : Nat) (q_text : Nat) (q_depths : Nat) (q_tune : Nat) (q_far : Nat) (q_books : Nat) (q_told : Nat) (q_years : Nat) (q_months : Nat) (q_ring : Nat) (q_woods : Nat) (q_ends : Nat) (q_wood : Nat) (q_sheets : Nat) (q_marsh : Nat) (q_oldest : Nat) (q_youngest : Nat) (q_knowns : Nat) (q_known : Nat) (q_chance : Nat) (q_digs : Nat) (q_draft : Nat) (q_isKept : Nat) (s_trace : Int64) (s_typed : Int32) (s_earliest : Int32) (s_latest : Int32) (s_firstYear : Int32) (s_rings : Int32) (s_weight : Nat → Int64) (o_r : Int64) (hf : f_X12_believed x1 x2 s_weight = some o_r) : CT l yX12_believed wsX12_believed rm_X12_believed D cA [.ref a0, .int x1, .int x2] (w_X12_believed a0 q_weight q_text q_depths q_tune q_far q_books q_told q_years q_months q_ring q_woods q_ends q_wood q_sheets q_marsh q_oldest q_youngest q_knowns q_known q_chance q_digs q_draft q_isKept cA s_trace s_typed s_earliest s_latest s_firstYear s_rings s_weight) (w_X12_believed a0 q_weight q_text q_depths q_tune q_far q_books q_told q_years q_months q_ring q_woods q_ends q_wood q_sheets q_marsh q_oldest q_youngest q_knowns q_known q_chance q_digs q_draft q_isKept cA s_trace s_typed s_earliest s_latest s_firstYear s_rings s_weight) (some (.long o_r)) := by
  refine CT.ofW (cc := cX12_believed) (maxL := 6) (ret := (some .long)) (by decide +kernel) rfl (Nat.le_of_ble_eq_true rfl) ?_
  intro p e s m below meth c A C0 hA hP hD ls hl
  have C0 : MX p s m [.ref a0, .int x1, .int x2].toArray meth c cX12_believed 6 wsX12_believed RX12 (some .long) D cA := C0
  have hl : lv_has ls 6 [(0, .ref a0), (1, .int x1), (2, .int x2)] := hl
  obtain ⟨hx, hb, hml, hown, hts, hr, hlocks, hX⟩ := id C0
  have hK := hX.1
  have hN := hX.2
  have hS : va_S A s.heap s.heap [] := va_S.rf
  unfold f_X12_believed at hf
  refine lv_iload_n hx hb dX12_believed_0 rfl (lv_at hl 1 rfl) ?_
  obtain ⟨r_1, hc_2, hf⟩ := pcl_e hf
  refine m_callS2 (As := [.int x1]) (rest := []) ⟨hx, hb, hml, hown, hts⟩ hX (ct_X12_isStory l D cA x1 r_1 hc_2) (va_cwS 1 hts gX12_believed_X12_isStory rfl rfl rfl (by decide +kernel) ⟨Nat.le_of_ble_eq_true rfl, Nat.le_of_ble_eq_true rfl⟩) hP hD hS hA [] [0, 1] 2 (by decide) rfl rfl (WS' := (w_X12_believed a0 q_weight q_text q_depths q_tune q_far q_books q_told q_years q_months q_ring q_woods q_ends q_wood q_sheets q_marsh q_oldest q_youngest q_knowns q_known q_chance q_digs q_draft q_isKept cA s_trace s_typed s_earliest s_latest s_firstYear s_rings s_weight)) (WR := [(a0, .inr (12, [.long s_trace, .ref q_text, .int s_typed, .ref q_depths, .ref q_tune, .ref q_far, .ref q_books, .ref q_told, .int s_earliest, .int s_latest, .ref q_years, .ref q_months, .int s_firstYear, .int s_rings, .ref q_ring, .ref q_woods, .ref q_ends, .ref q_wood, .ref q_sheets, .ref q_marsh, .ref q_oldest, .ref q_youngest, .ref q_knowns, .ref q_known, .ref q_weight, .ref q_chance, .ref q_digs, .ref q_draft, .ref q_isKept])), (q_weight, .inl (cA 2, 15, .inr (.inl s_weight)))]) rfl rfl rfl rfl (by decide) (by decide) rfl hl.1 rfl (st' := [.int r_1]) rfl (Nat.le_of_ble_eq_true rfl) ⟨Nat.zero_le _, Nat.zero_le _⟩ dX12_believed_1 (fun H locs hP hD hS => ?_)
  refine lv_if_eq (tgt := 16) hx hb dX12_believed_4 (by decide) (fun c_3 => ?_) (fun c_3 => ?_)
  · have hf := pbr_t c_3 hf
    refine lv_ldc2 (v := (-1 : Int64)) hx hb hown (hts _ hw_X12_believed_c170) dX12_believed_16 ?_
    obtain rfl := pe1 hf
    exact m_lret hx hb hr hlocks hP hS dX12_believed_19
  have hf := pbr_f c_3 hf
  refine lv_iload_n hx hb dX12_believed_7 rfl (lv_at hl 2 rfl) ?_
  refine lv_iconst (v := (0 : Int32)) hx hb dX12_believed_8 (by decide) ?_
  refine lv_iconst (v := (1 : Int32)) hx hb dX12_believed_9 (by decide) ?_
  obtain ⟨r_4, hc_5, hf⟩ := pcl_e hf
  refine m_callS2 (As := [.int x2, .int (0 : Int32), .int (1 : Int32)]) (rest := []) ⟨hx, hb, hml, hown, hts⟩ hX (ct_X12_in l D cA x2 (0 : Int32) (1 : Int32) r_4 hc_5) (va_cwS 3 hts gX12_believed_X12_in rfl rfl rfl (by decide +kernel) ⟨Nat.le_of_ble_eq_true rfl, Nat.le_of_ble_eq_true rfl⟩) hP hD hS hA [] [0, 1] 2 (by decide) rfl rfl (WS' := (w_X12_believed a0 q_weight q_text q_depths q_tune q_far q_books q_told q_years q_months q_ring q_woods q_ends q_wood q_sheets q_marsh q_oldest q_youngest q_knowns q_known q_chance q_digs q_draft q_isKept cA s_trace s_typed s_earliest s_latest s_firstYear s_rings s_weight)) (WR := [(a0, .inr (12, [.long s_trace, .ref q_text, .int s_typed, .ref q_depths, .ref q_tune, .ref q_far, .ref q_books, .ref q_told, .int s_earliest, .int s_latest, .ref q_years, .ref q_months, .int s_firstYear, .int s_rings, .ref q_ring, .ref q_woods, .ref q_ends, .ref q_wood, .ref q_sheets, .ref q_marsh, .ref q_oldest, .ref q_youngest, .ref q_knowns, .ref q_known, .ref q_weight, .ref q_chance, .ref q_digs, .ref q_draft, .ref q_isKept])), (q_weight, .inl (cA 2, 15, .inr (.inl s_weight)))]) rfl rfl rfl rfl (by decide) (by decide) rfl hl.1 rfl (st' := [.int r_4]) rfl (Nat.le_of_ble_eq_true rfl) ⟨Nat.zero_le _, Nat.zero_le _⟩ dX12_believed_10 (fun H locs hP hD hS => ?_)
  refine lv_if_ne (tgt := 20) hx hb dX12_believed_13 (by decide) (fun c_6 => ?_) (fun c_6 => ?_)
  · have hf := pbr_f c_6 hf
    refine lv_lconst (v := (0 : Int64)) hx hb dX12_believed_20 (by decide) ?_
    refine lv_lstore_n (lv' := [(3, .long (0 : Int64)), (0, .ref a0), (1, .int x1), (2, .int x2)]) hx hb dX12_believed_21 rfl hl (by decide) rfl (fun ls hl => ?_)
    refine lv_iconst (v := (0 : Int32)) hx hb dX12_believed_22 (by decide) ?_
    refine lv_istore (lv' := [(5, .int (0 : Int32)), (3, .long (0 : Int64)), (0, .ref a0), (1, .int x1), (2, .int x2)]) hx hb dX12_believed_23 hl (by decide) rfl (fun ls hl => ?_)
    exact k_X12_believed_25 C0 hA FU (0 : Int64) (0 : Int32) hf _ _ hP hD hS ls (lv_sub hl [2, 3, 4, 1, 0] rfl)
  have hf := pbr_t c_6 hf
  refine lv_ldc2 (v := (-1 : Int64)) hx hb hown (hts _ hw_X12_believed_c170) dX12_believed_16 ?_
  obtain rfl := pe1 hf
  exact m_lret hx hb hr hlocks hP hS dX12_believed_19

/-! ===== OrphanWaveModel.dig()I ===== -/
abbrev rm_X12_dig : Room := { frames := 0, cells := 0, slots := 0, locals := 0 }
abbrev w_X12_dig (a0 : Nat) (q_digs : Nat) (q_chance : Nat) (q_weight : Nat) (q_text : Nat) (q_depths : Nat) (q_tune : Nat) (q_far : Nat) (q_books : Nat) (q_told : Nat) (q_years : Nat) (q_months : Nat) (q_ring : Nat) (q_woods : Nat) (q_ends : Nat) (q_wood : Nat) (q_sheets : Nat) (q_marsh : Nat) (q_oldest : Nat) (q_youngest : Nat) (q_knowns : Nat) (q_known : Nat) (q_draft : Nat) (q_isKept : Nat) (cA : Nat → ClassId) (s_trace : Int64) (s_typed : Int32) (s_earliest : Int32) (s_latest : Int32) (s_firstYear : Int32) (s_rings : Int32) (s_digs : Nat → Int32) (s_chance : Nat → Int32) (s_weight : Nat → Int64) : va_W := [(a0, .inr (12, [.long s_trace, .ref q_text, .int s_typed, .ref q_depths, .ref q_tune, .ref q_far, .ref q_books, .ref q_told, .int s_earliest, .int s_latest, .ref q_years, .ref q_months, .int s_firstYear, .int s_rings, .ref q_ring, .ref q_woods, .ref q_ends, .ref q_wood, .ref q_sheets, .ref q_marsh, .ref q_oldest, .ref q_youngest, .ref q_knowns, .ref q_known, .ref q_weight, .ref q_chance, .ref q_digs, .ref q_draft, .ref q_isKept])), (q_digs, .inl (cA 1, 3, .inl s_digs)), (q_chance, .inl (cA 1, 30, .inl s_chance)), (q_weight, .inl (cA 2, 15, .inr (.inl s_weight)))]
theorem hn_X12_dig_X12 : ∀ w ∈ u_ws RX12 TX12 29, w ∈ wsX12_dig := by decide +kernel
theorem hw_X12_dig_c170 : Cond.constantLong RX12 170 (-1) ∈ wsX12_dig := by decide +kernel
theorem hw_X12_dig_f72 : Cond.fieldLink RX12 72 "OrphanWaveModel" "digs" "[I" ∈ wsX12_dig := by decide +kernel
theorem hw_X12_dig_f69 : Cond.fieldLink RX12 69 "OrphanWaveModel" "chance" "[I" ∈ wsX12_dig := by decide +kernel
theorem hw_X12_dig_f65 : Cond.fieldLink RX12 65 "OrphanWaveModel" "weight" "[J" ∈ wsX12_dig := by decide +kernel

def f_X12_dig_171 (r10 : (Int32) → (Int64) → (Int32) → Option ((Int32))) (s_digs : Nat → Int32) (s_chance : Nat → Int32) (s_weight : Nat → Int64) (x2 : Int64) (x4 : Int32) (x5 : Int64) (x7 : Int64) (x9 : Int32) (z0 : Int32) : Option ((Int32)) :=
  pbr (x9 = 0)
    (plt (x4 + (1 : Int32) : Int32) (fun x4_2 => (
    r10 z0 x2 x4_2)))
    (plt ((x5 + x7) : Int64) (fun x2_3 => (
    plt (x4 + (1 : Int32) : Int32) (fun x4_4 => (
    r10 z0 x2_3 x4_4)))))

set_option maxRecDepth 100000 in
set_option maxHeartbeats 4000000 in
theorem k_X12_dig_171 {p : Program} {l : Launch} {e : Env} {s : State} {m : MethodId} {args : Array Value} {below : List Frame} {meth : Method} {c : Code} {A : Nat → Prop} {D : va_G} {cA : Nat → ClassId} (C0 : MX p s m args meth c cX12_dig 11 wsX12_dig RX12 (some .int) D cA) (hA : ∀ q, s.heap.size ≤ q → A q) {a0 : Nat} {q_digs : Nat} {q_chance : Nat} {q_weight : Nat} {q_text : Nat} {q_depths : Nat} {q_tune : Nat} {q_far : Nat} {q_books : Nat} {q_told : Nat} {q_years : Nat} {q_months : Nat} {q_ring : Nat} {q_woods : Nat} {q_ends : Nat} {q_wood : Nat} {q_sheets : Nat} {q_marsh : Nat} {q_oldest : Nat} {q_youngest : Nat} {q_knowns : Nat} {q_known : Nat} {q_draft : Nat} {q_isKept : Nat} {s_trace : Int64} {s_typed : Int32} {s_earliest : Int32} {s_latest : Int32} {s_firstYear : Int32} {s_rings : Int32} {s_digs : Nat → Int32} {s_chance : Nat → Int32} {s_weight : Nat → Int64} {o_r : Int32} {r10 : (Int32) → (Int64) → (Int32) → Option ((Int32))} (hr10 : ∀ (x1 : Int32) (x2 : Int64) (x4 : Int32), r10 x1 x2 x4 = some o_r → ∀ (H : Heap) (locs : List Loc), va_P D vwCl (w_X12_dig a0 q_digs q_chance q_weight q_text q_depths q_tune q_far q_books q_told q_years q_months q_ring q_woods q_ends q_wood q_sheets q_marsh q_oldest q_youngest q_knowns q_known q_draft q_isKept cA s_trace s_typed s_earliest s_latest s_firstYear s_rings s_digs s_chance s_weight) H → va_D A (w_X12_dig a0 q_digs q_chance q_weight q_text q_depths q_tune q_far q_books q_told q_years q_months q_ring q_woods q_ends q_wood q_sheets q_marsh q_oldest q_youngest q_knowns q_known q_draft q_isKept cA s_trace s_typed s_earliest s_latest s_firstYear s_rings s_digs s_chance s_weight) → va_S A s.heap H locs → ∀ ls : Array Slot, lv_has ls 11 [(0, .ref a0), (1, .int x1), (2, .long x2), (4, .int x4)] → W p l e rm_X12_dig s m args below meth c H locs 0 0 (MQ below (CQ D (some (.int o_r)) (w_X12_dig a0 q_digs q_chance q_weight q_text q_depths q_tune q_far q_books q_told q_years q_months q_ring q_woods q_ends q_wood q_sheets q_marsh q_oldest q_youngest q_knowns q_known q_draft q_isKept cA s_trace s_typed s_earliest s_latest s_firstYear s_rings s_digs s_chance s_weight) A) args s 0 0 A) (F0 m 10 ls [])) : ∀ (x2 : Int64) (x4 : Int32) (x5 : Int64) (x7 : Int64) (x9 : Int32) (z0 : Int32), f_X12_dig_171 r10 s_digs s_chance s_weight x2 x4 x5 x7 x9 z0 = some o_r → ∀ (H : Heap) (locs : List Loc), va_P D vwCl (w_X12_dig a0 q_digs q_chance q_weight q_text q_depths q_tune q_far q_books q_told q_years q_months q_ring q_woods q_ends q_wood q_sheets q_marsh q_oldest q_youngest q_knowns q_known q_draft q_isKept cA s_trace s_typed s_earliest s_latest s_firstYear s_rings s_digs s_chance s_weight) H → va_D A (w_X12_dig a0 q_digs q_chance q_weight q_text q_depths q_tune q_far q_books q_told q_years q_months q_ring q_woods q_ends q_wood q_sheets q_marsh q_oldest q_youngest q_knowns q_known q_draft q_isKept cA s_trace s_typed s_earliest s_latest s_firstYear s_rings s_digs s_chance s_weight) → va_S A s.heap H locs → ∀ ls : Array Slot, lv_has ls 11 [(0, .ref a0), (2, .long x2), (4, .int x4), (5, .long x5), (7, .long x7), (9, .int x9)] → W p l e rm_X12_dig s m args below meth c H locs 0 0 (MQ below (CQ D (some (.int o_r)) (w_X12_dig a0 q_digs q_chance q_weight q_text q_depths q_tune q_far q_books q_told q_years q_months q_ring q_woods q_ends q_wood q_sheets q_marsh q_oldest q_youngest q_knowns q_known q_draft q_isKept cA s_trace s_typed s_earliest s_latest s_firstYear s_rings s_digs s_chance s_weight) A) args s 0 0 A) (F0 m 171 ls [.int z0]) := by
  obtain ⟨hx, hb, hml, hown, hts, hr, hlocks, hX⟩ := C0
  have hK := hX.1
  have hN := hX.2
  intro x2 x4 x5 x7 x9 z0 hf H locs hP hD hS ls hl
  unfold f_X12_dig_171 at hf
  refine lv_istore_n (lv' := [(1, .int z0), (0, .ref a0), (2, .long x2), (4, .int x4), (5, .long x5), (7, .long x7), (9, .int x9)]) hx hb dX12_dig_171 rfl hl (by decide) rfl (fun ls hl => ?_)
  refine lv_iload hx hb dX12_dig_172 (lv_at hl 6 rfl) ?_
  refine lv_if_eq (tgt := 185) hx hb dX12_dig_174 (by decide) (fun c_1 => ?_) (fun c_1 => ?_)
  · have hf := pbr_t c_1 hf
    refine lv_lload_n hx hb dX12_dig_185 rfl (lv_at hl 2 rfl) ?_
    refine lv_lstore_n (lv' := [(2, .long x2), (1, .int z0), (0, .ref a0), (4, .int x4), (5, .long x5), (7, .long x7), (9, .int x9)]) hx hb dX12_dig_186 rfl hl (by decide) rfl (fun ls hl => ?_)
    obtain ⟨x4_2, ex4_2⟩ : ∃ z : Int32, z = x4 + (1 : Int32) := ⟨_, rfl⟩
    have hf := plt_e ex4_2 hf
    refine lv_iinc (v := x4_2) (lv' := [(4, .int x4_2), (2, .long x2), (1, .int z0), (0, .ref a0), (5, .long x5), (7, .long x7), (9, .int x9)]) hx hb dX12_dig_187 hl (k := 3) rfl (by rw [ex4_2]; rfl) (by decide) rfl (fun ls hl => ?_)
    refine lv_goto (tgt := 10) hx hb dX12_dig_190 (by decide) ?_
    exact hr10 z0 x2 x4_2 hf _ _ hP hD hS ls (lv_sub hl [3, 2, 1, 0] rfl)
  have hf := pbr_f c_1 hf
  refine lv_lload hx hb dX12_dig_177 (lv_at hl 4 rfl) ?_
  refine lv_lload hx hb dX12_dig_179 (lv_at hl 5 rfl) ?_
  refine lv_ladd hx hb dX12_dig_181 ?_
  refine lv_goto (tgt := 186) hx hb dX12_dig_182 (by decide) ?_
  refine lv_topl (fun x2_3 ex2_3 => ?_)
  have hf := plt_e ex2_3 hf
  refine lv_lstore_n (lv' := [(2, .long x2_3), (1, .int z0), (0, .ref a0), (4, .int x4), (5, .long x5), (7, .long x7), (9, .int x9)]) hx hb dX12_dig_186 rfl hl (by decide) rfl (fun ls hl => ?_)
  obtain ⟨x4_4, ex4_4⟩ : ∃ z : Int32, z = x4 + (1 : Int32) := ⟨_, rfl⟩
  have hf := plt_e ex4_4 hf
  refine lv_iinc (v := x4_4) (lv' := [(4, .int x4_4), (2, .long x2_3), (1, .int z0), (0, .ref a0), (5, .long x5), (7, .long x7), (9, .int x9)]) hx hb dX12_dig_187 hl (k := 3) rfl (by rw [ex4_4]; rfl) (by decide) rfl (fun ls hl => ?_)
  refine lv_goto (tgt := 10) hx hb dX12_dig_190 (by decide) ?_
  exact hr10 z0 x2_3 x4_4 hf _ _ hP hD hS ls (lv_sub hl [3, 2, 1, 0] rfl)

def f_X12_dig_158 (r10 : (Int32) → (Int64) → (Int32) → Option ((Int32))) (s_digs : Nat → Int32) (s_chance : Nat → Int32) (s_weight : Nat → Int64) (x1 : Int32) (x2 : Int64) (x4 : Int32) (x5 : Int64) (x7 : Int64) (z0 : Int32) : Option ((Int32)) :=
  pbr (z0 = 0)
    (f_X12_dig_171 r10 s_digs s_chance s_weight x2 x4 x5 x7 z0 x1)
    (f_X12_dig_171 r10 s_digs s_chance s_weight x2 x4 x5 x7 z0 x4)

set_option maxRecDepth 100000 in
set_option maxHeartbeats 4000000 in
theorem k_X12_dig_158 {p : Program} {l : Launch} {e : Env} {s : State} {m : MethodId} {args : Array Value} {below : List Frame} {meth : Method} {c : Code} {A : Nat → Prop} {D : va_G} {cA : Nat → ClassId} (C0 : MX p s m args meth c cX12_dig 11 wsX12_dig RX12 (some .int) D cA) (hA : ∀ q, s.heap.size ≤ q → A q) {a0 : Nat} {q_digs : Nat} {q_chance : Nat} {q_weight : Nat} {q_text : Nat} {q_depths : Nat} {q_tune : Nat} {q_far : Nat} {q_books : Nat} {q_told : Nat} {q_years : Nat} {q_months : Nat} {q_ring : Nat} {q_woods : Nat} {q_ends : Nat} {q_wood : Nat} {q_sheets : Nat} {q_marsh : Nat} {q_oldest : Nat} {q_youngest : Nat} {q_knowns : Nat} {q_known : Nat} {q_draft : Nat} {q_isKept : Nat} {s_trace : Int64} {s_typed : Int32} {s_earliest : Int32} {s_latest : Int32} {s_firstYear : Int32} {s_rings : Int32} {s_digs : Nat → Int32} {s_chance : Nat → Int32} {s_weight : Nat → Int64} {o_r : Int32} {r10 : (Int32) → (Int64) → (Int32) → Option ((Int32))} (hr10 : ∀ (x1 : Int32) (x2 : Int64) (x4 : Int32), r10 x1 x2 x4 = some o_r → ∀ (H : Heap) (locs : List Loc), va_P D vwCl (w_X12_dig a0 q_digs q_chance q_weight q_text q_depths q_tune q_far q_books q_told q_years q_months q_ring q_woods q_ends q_wood q_sheets q_marsh q_oldest q_youngest q_knowns q_known q_draft q_isKept cA s_trace s_typed s_earliest s_latest s_firstYear s_rings s_digs s_chance s_weight) H → va_D A (w_X12_dig a0 q_digs q_chance q_weight q_text q_depths q_tune q_far q_books q_told q_years q_months q_ring q_woods q_ends q_wood q_sheets q_marsh q_oldest q_youngest q_knowns q_known q_draft q_isKept cA s_trace s_typed s_earliest s_latest s_firstYear s_rings s_digs s_chance s_weight) → va_S A s.heap H locs → ∀ ls : Array Slot, lv_has ls 11 [(0, .ref a0), (1, .int x1), (2, .long x2), (4, .int x4)] → W p l e rm_X12_dig s m args below meth c H locs 0 0 (MQ below (CQ D (some (.int o_r)) (w_X12_dig a0 q_digs q_chance q_weight q_text q_depths q_tune q_far q_books q_told q_years q_months q_ring q_woods q_ends q_wood q_sheets q_marsh q_oldest q_youngest q_knowns q_known q_draft q_isKept cA s_trace s_typed s_earliest s_latest s_firstYear s_rings s_digs s_chance s_weight) A) args s 0 0 A) (F0 m 10 ls [])) : ∀ (x1 : Int32) (x2 : Int64) (x4 : Int32) (x5 : Int64) (x7 : Int64) (z0 : Int32), f_X12_dig_158 r10 s_digs s_chance s_weight x1 x2 x4 x5 x7 z0 = some o_r → ∀ (H : Heap) (locs : List Loc), va_P D vwCl (w_X12_dig a0 q_digs q_chance q_weight q_text q_depths q_tune q_far q_books q_told q_years q_months q_ring q_woods q_ends q_wood q_sheets q_marsh q_oldest q_youngest q_knowns q_known q_draft q_isKept cA s_trace s_typed s_earliest s_latest s_firstYear s_rings s_digs s_chance s_weight) H → va_D A (w_X12_dig a0 q_digs q_chance q_weight q_text q_depths q_tune q_far q_books q_told q_years q_months q_ring q_woods q_ends q_wood q_sheets q_marsh q_oldest q_youngest q_knowns q_known q_draft q_isKept cA s_trace s_typed s_earliest s_latest s_firstYear s_rings s_digs s_chance s_weight) → va_S A s.heap H locs → ∀ ls : Array Slot, lv_has ls 11 [(0, .ref a0), (1, .int x1), (2, .long x2), (4, .int x4), (5, .long x5), (7, .long x7)] → W p l e rm_X12_dig s m args below meth c H locs 0 0 (MQ below (CQ D (some (.int o_r)) (w_X12_dig a0 q_digs q_chance q_weight q_text q_depths q_tune q_far q_books q_told q_years q_months q_ring q_woods q_ends q_wood q_sheets q_marsh q_oldest q_youngest q_knowns q_known q_draft q_isKept cA s_trace s_typed s_earliest s_latest s_firstYear s_rings s_digs s_chance s_weight) A) args s 0 0 A) (F0 m 158 ls [.int z0]) := by
  obtain ⟨hx, hb, hml, hown, hts, hr, hlocks, hX⟩ := C0
  have hK := hX.1
  have hN := hX.2
  intro x1 x2 x4 x5 x7 z0 hf H locs hP hD hS ls hl
  unfold f_X12_dig_158 at hf
  refine lv_istore (lv' := [(9, .int z0), (0, .ref a0), (1, .int x1), (2, .long x2), (4, .int x4), (5, .long x5), (7, .long x7)]) hx hb dX12_dig_158 hl (by decide) rfl (fun ls hl => ?_)
  refine lv_iload hx hb dX12_dig_160 (lv_at hl 0 rfl) ?_
  refine lv_if_eq (tgt := 170) hx hb dX12_dig_162 (by decide) (fun c_1 => ?_) (fun c_1 => ?_)
  · have hf := pbr_t c_1 hf
    refine lv_iload_n hx hb dX12_dig_170 rfl (lv_at hl 2 rfl) ?_
    exact k_X12_dig_171 ⟨hx, hb, hml, hown, hts, hr, hlocks, hX⟩ hA hr10 x2 x4 x5 x7 z0 x1 hf _ _ hP hD hS ls (lv_sub hl [1, 3, 4, 5, 6, 0] rfl)
  have hf := pbr_f c_1 hf
  refine lv_iload hx hb dX12_dig_165 (lv_at hl 4 rfl) ?_
  refine lv_goto (tgt := 171) hx hb dX12_dig_167 (by decide) ?_
  exact k_X12_dig_171 ⟨hx, hb, hml, hown, hts, hr, hlocks, hX⟩ hA hr10 x2 x4 x5 x7 z0 x4 hf _ _ hP hD hS ls (lv_sub hl [1, 3, 4, 5, 6, 0] rfl)

def f_X12_dig_157 (r10 : (Int32) → (Int64) → (Int32) → Option ((Int32))) (s_digs : Nat → Int32) (s_chance : Nat → Int32) (s_weight : Nat → Int64) (x1 : Int32) (x2 : Int64) (x4 : Int32) (x5 : Int64) (x7 : Int64) : Option ((Int32)) :=
  f_X12_dig_158 r10 s_digs s_chance s_weight x1 x2 x4 x5 x7 (0 : Int32)

set_option maxRecDepth 100000 in
set_option maxHeartbeats 4000000 in
theorem k_X12_dig_157 {p : Program} {l : Launch} {e : Env} {s : State} {m : MethodId} {args : Array Value} {below : List Frame} {meth : Method} {c : Code} {A : Nat → Prop} {D : va_G} {cA : Nat → ClassId} (C0 : MX p s m args meth c cX12_dig 11 wsX12_dig RX12 (some .int) D cA) (hA : ∀ q, s.heap.size ≤ q → A q) {a0 : Nat} {q_digs : Nat} {q_chance : Nat} {q_weight : Nat} {q_text : Nat} {q_depths : Nat} {q_tune : Nat} {q_far : Nat} {q_books : Nat} {q_told : Nat} {q_years : Nat} {q_months : Nat} {q_ring : Nat} {q_woods : Nat} {q_ends : Nat} {q_wood : Nat} {q_sheets : Nat} {q_marsh : Nat} {q_oldest : Nat} {q_youngest : Nat} {q_knowns : Nat} {q_known : Nat} {q_draft : Nat} {q_isKept : Nat} {s_trace : Int64} {s_typed : Int32} {s_earliest : Int32} {s_latest : Int32} {s_firstYear : Int32} {s_rings : Int32} {s_digs : Nat → Int32} {s_chance : Nat → Int32} {s_weight : Nat → Int64} {o_r : Int32} {r10 : (Int32) → (Int64) → (Int32) → Option ((Int32))} (hr10 : ∀ (x1 : Int32) (x2 : Int64) (x4 : Int32), r10 x1 x2 x4 = some o_r → ∀ (H : Heap) (locs : List Loc), va_P D vwCl (w_X12_dig a0 q_digs q_chance q_weight q_text q_depths q_tune q_far q_books q_told q_years q_months q_ring q_woods q_ends q_wood q_sheets q_marsh q_oldest q_youngest q_knowns q_known q_draft q_isKept cA s_trace s_typed s_earliest s_latest s_firstYear s_rings s_digs s_chance s_weight) H → va_D A (w_X12_dig a0 q_digs q_chance q_weight q_text q_depths q_tune q_far q_books q_told q_years q_months q_ring q_woods q_ends q_wood q_sheets q_marsh q_oldest q_youngest q_knowns q_known q_draft q_isKept cA s_trace s_typed s_earliest s_latest s_firstYear s_rings s_digs s_chance s_weight) → va_S A s.heap H locs → ∀ ls : Array Slot, lv_has ls 11 [(0, .ref a0), (1, .int x1), (2, .long x2), (4, .int x4)] → W p l e rm_X12_dig s m args below meth c H locs 0 0 (MQ below (CQ D (some (.int o_r)) (w_X12_dig a0 q_digs q_chance q_weight q_text q_depths q_tune q_far q_books q_told q_years q_months q_ring q_woods q_ends q_wood q_sheets q_marsh q_oldest q_youngest q_knowns q_known q_draft q_isKept cA s_trace s_typed s_earliest s_latest s_firstYear s_rings s_digs s_chance s_weight) A) args s 0 0 A) (F0 m 10 ls [])) : ∀ (x1 : Int32) (x2 : Int64) (x4 : Int32) (x5 : Int64) (x7 : Int64), f_X12_dig_157 r10 s_digs s_chance s_weight x1 x2 x4 x5 x7 = some o_r → ∀ (H : Heap) (locs : List Loc), va_P D vwCl (w_X12_dig a0 q_digs q_chance q_weight q_text q_depths q_tune q_far q_books q_told q_years q_months q_ring q_woods q_ends q_wood q_sheets q_marsh q_oldest q_youngest q_knowns q_known q_draft q_isKept cA s_trace s_typed s_earliest s_latest s_firstYear s_rings s_digs s_chance s_weight) H → va_D A (w_X12_dig a0 q_digs q_chance q_weight q_text q_depths q_tune q_far q_books q_told q_years q_months q_ring q_woods q_ends q_wood q_sheets q_marsh q_oldest q_youngest q_knowns q_known q_draft q_isKept cA s_trace s_typed s_earliest s_latest s_firstYear s_rings s_digs s_chance s_weight) → va_S A s.heap H locs → ∀ ls : Array Slot, lv_has ls 11 [(0, .ref a0), (1, .int x1), (2, .long x2), (4, .int x4), (5, .long x5), (7, .long x7)] → W p l e rm_X12_dig s m args below meth c H locs 0 0 (MQ below (CQ D (some (.int o_r)) (w_X12_dig a0 q_digs q_chance q_weight q_text q_depths q_tune q_far q_books q_told q_years q_months q_ring q_woods q_ends q_wood q_sheets q_marsh q_oldest q_youngest q_knowns q_known q_draft q_isKept cA s_trace s_typed s_earliest s_latest s_firstYear s_rings s_digs s_chance s_weight) A) args s 0 0 A) (F0 m 157 ls []) := by
  obtain ⟨hx, hb, hml, hown, hts, hr, hlocks, hX⟩ := C0
  have hK := hX.1
  have hN := hX.2
  intro x1 x2 x4 x5 x7 hf H locs hP hD hS ls hl
  unfold f_X12_dig_157 at hf
  refine lv_iconst (v := (0 : Int32)) hx hb dX12_dig_157 (by decide) ?_
  exact k_X12_dig_158 ⟨hx, hb, hml, hown, hts, hr, hlocks, hX⟩ hA hr10 x1 x2 x4 x5 x7 (0 : Int32) hf _ _ hP hD hS ls (lv_sub hl [0, 1, 2, 3, 4, 5] rfl)

def f_X12_dig_80 (r10 : (Int32) → (Int64) → (Int32) → Option ((Int32))) (r26 : (Int32) → (Int64) → (Int32) → (Int64) → (Int64) → (Int32) → Option ((Int32))) (s_digs : Nat → Int32) (s_chance : Nat → Int32) (s_weight : Nat → Int64) (x1 : Int32) (x2 : Int64) (x4 : Int32) (x7 : Int64) (x9 : Int32) (x10 : Int32) (z0 : Int64) : Option ((Int32)) :=
  pgd (pin x9 15) (
  pbr ((lg_cmp ((s_weight x9.toNatClampNeg) * ((10 : Int32) - x10).toInt64) x7) ≤ 0)
    (plt (x9 + (1 : Int32) : Int32) (fun x9_3 => (
    r26 x1 x2 x4 z0 x7 x9_3)))
    (plt (((s_weight x9.toNatClampNeg) * ((10 : Int32) - x10).toInt64) : Int64) (fun x7_4 => (
    plt (x9 + (1 : Int32) : Int32) (fun x9_5 => (
    r26 x1 x2 x4 z0 x7_4 x9_5))))))

set_option maxRecDepth 100000 in
set_option maxHeartbeats 4000000 in
theorem k_X12_dig_80 {p : Program} {l : Launch} {e : Env} {s : State} {m : MethodId} {args : Array Value} {below : List Frame} {meth : Method} {c : Code} {A : Nat → Prop} {D : va_G} {cA : Nat → ClassId} (C0 : MX p s m args meth c cX12_dig 11 wsX12_dig RX12 (some .int) D cA) (hA : ∀ q, s.heap.size ≤ q → A q) {a0 : Nat} {q_digs : Nat} {q_chance : Nat} {q_weight : Nat} {q_text : Nat} {q_depths : Nat} {q_tune : Nat} {q_far : Nat} {q_books : Nat} {q_told : Nat} {q_years : Nat} {q_months : Nat} {q_ring : Nat} {q_woods : Nat} {q_ends : Nat} {q_wood : Nat} {q_sheets : Nat} {q_marsh : Nat} {q_oldest : Nat} {q_youngest : Nat} {q_knowns : Nat} {q_known : Nat} {q_draft : Nat} {q_isKept : Nat} {s_trace : Int64} {s_typed : Int32} {s_earliest : Int32} {s_latest : Int32} {s_firstYear : Int32} {s_rings : Int32} {s_digs : Nat → Int32} {s_chance : Nat → Int32} {s_weight : Nat → Int64} {o_r : Int32} {r10 : (Int32) → (Int64) → (Int32) → Option ((Int32))} (hr10 : ∀ (x1 : Int32) (x2 : Int64) (x4 : Int32), r10 x1 x2 x4 = some o_r → ∀ (H : Heap) (locs : List Loc), va_P D vwCl (w_X12_dig a0 q_digs q_chance q_weight q_text q_depths q_tune q_far q_books q_told q_years q_months q_ring q_woods q_ends q_wood q_sheets q_marsh q_oldest q_youngest q_knowns q_known q_draft q_isKept cA s_trace s_typed s_earliest s_latest s_firstYear s_rings s_digs s_chance s_weight) H → va_D A (w_X12_dig a0 q_digs q_chance q_weight q_text q_depths q_tune q_far q_books q_told q_years q_months q_ring q_woods q_ends q_wood q_sheets q_marsh q_oldest q_youngest q_knowns q_known q_draft q_isKept cA s_trace s_typed s_earliest s_latest s_firstYear s_rings s_digs s_chance s_weight) → va_S A s.heap H locs → ∀ ls : Array Slot, lv_has ls 11 [(0, .ref a0), (1, .int x1), (2, .long x2), (4, .int x4)] → W p l e rm_X12_dig s m args below meth c H locs 0 0 (MQ below (CQ D (some (.int o_r)) (w_X12_dig a0 q_digs q_chance q_weight q_text q_depths q_tune q_far q_books q_told q_years q_months q_ring q_woods q_ends q_wood q_sheets q_marsh q_oldest q_youngest q_knowns q_known q_draft q_isKept cA s_trace s_typed s_earliest s_latest s_firstYear s_rings s_digs s_chance s_weight) A) args s 0 0 A) (F0 m 10 ls [])) {r26 : (Int32) → (Int64) → (Int32) → (Int64) → (Int64) → (Int32) → Option ((Int32))} (hr26 : ∀ (x1 : Int32) (x2 : Int64) (x4 : Int32) (x5 : Int64) (x7 : Int64) (x9 : Int32), r26 x1 x2 x4 x5 x7 x9 = some o_r → ∀ (H : Heap) (locs : List Loc), va_P D vwCl (w_X12_dig a0 q_digs q_chance q_weight q_text q_depths q_tune q_far q_books q_told q_years q_months q_ring q_woods q_ends q_wood q_sheets q_marsh q_oldest q_youngest q_knowns q_known q_draft q_isKept cA s_trace s_typed s_earliest s_latest s_firstYear s_rings s_digs s_chance s_weight) H → va_D A (w_X12_dig a0 q_digs q_chance q_weight q_text q_depths q_tune q_far q_books q_told q_years q_months q_ring q_woods q_ends q_wood q_sheets q_marsh q_oldest q_youngest q_knowns q_known q_draft q_isKept cA s_trace s_typed s_earliest s_latest s_firstYear s_rings s_digs s_chance s_weight) → va_S A s.heap H locs → ∀ ls : Array Slot, lv_has ls 11 [(0, .ref a0), (1, .int x1), (2, .long x2), (4, .int x4), (5, .long x5), (7, .long x7), (9, .int x9)] → W p l e rm_X12_dig s m args below meth c H locs 0 0 (MQ below (CQ D (some (.int o_r)) (w_X12_dig a0 q_digs q_chance q_weight q_text q_depths q_tune q_far q_books q_told q_years q_months q_ring q_woods q_ends q_wood q_sheets q_marsh q_oldest q_youngest q_knowns q_known q_draft q_isKept cA s_trace s_typed s_earliest s_latest s_firstYear s_rings s_digs s_chance s_weight) A) args s 0 0 A) (F0 m 26 ls [])) : ∀ (x1 : Int32) (x2 : Int64) (x4 : Int32) (x7 : Int64) (x9 : Int32) (x10 : Int32) (z0 : Int64), f_X12_dig_80 r10 r26 s_digs s_chance s_weight x1 x2 x4 x7 x9 x10 z0 = some o_r → ∀ (H : Heap) (locs : List Loc), va_P D vwCl (w_X12_dig a0 q_digs q_chance q_weight q_text q_depths q_tune q_far q_books q_told q_years q_months q_ring q_woods q_ends q_wood q_sheets q_marsh q_oldest q_youngest q_knowns q_known q_draft q_isKept cA s_trace s_typed s_earliest s_latest s_firstYear s_rings s_digs s_chance s_weight) H → va_D A (w_X12_dig a0 q_digs q_chance q_weight q_text q_depths q_tune q_far q_books q_told q_years q_months q_ring q_woods q_ends q_wood q_sheets q_marsh q_oldest q_youngest q_knowns q_known q_draft q_isKept cA s_trace s_typed s_earliest s_latest s_firstYear s_rings s_digs s_chance s_weight) → va_S A s.heap H locs → ∀ ls : Array Slot, lv_has ls 11 [(0, .ref a0), (1, .int x1), (2, .long x2), (4, .int x4), (7, .long x7), (9, .int x9), (10, .int x10)] → W p l e rm_X12_dig s m args below meth c H locs 0 0 (MQ below (CQ D (some (.int o_r)) (w_X12_dig a0 q_digs q_chance q_weight q_text q_depths q_tune q_far q_books q_told q_years q_months q_ring q_woods q_ends q_wood q_sheets q_marsh q_oldest q_youngest q_knowns q_known q_draft q_isKept cA s_trace s_typed s_earliest s_latest s_firstYear s_rings s_digs s_chance s_weight) A) args s 0 0 A) (F0 m 80 ls [.long z0]) := by
  obtain ⟨hx, hb, hml, hown, hts, hr, hlocks, hX⟩ := C0
  have hK := hX.1
  have hN := hX.2
  intro x1 x2 x4 x7 x9 x10 z0 hf H locs hP hD hS ls hl
  unfold f_X12_dig_80 at hf
  refine lv_lstore (lv' := [(5, .long z0), (0, .ref a0), (1, .int x1), (2, .long x2), (4, .int x4), (7, .long x7), (9, .int x9), (10, .int x10)]) hx hb dX12_dig_80 hl (by decide) rfl (fun ls hl => ?_)
  refine lv_aload_n hx hb dX12_dig_82 rfl (lv_at hl 1 rfl) ?_
  refine va_get (D := D) (ci := 12) (v := .ref q_weight) (C := RX12) (T := TX12) (N := 29) hx hb hts hn_X12_dig_X12 hown hK hP 0 rfl rfl 24 (by decide) (hts _ hw_X12_dig_f65) (fun _ h9 => h9) rfl dX12_dig_83 ?_
  refine lv_iload hx hb dX12_dig_86 (lv_at hl 6 rfl) ?_
  obtain ⟨g_1, hf⟩ := pgd_e hf
  refine va_lald hx hb hK hP 3 2 rfl rfl g_1 dX12_dig_88 ?_
  refine lv_bipush (v := (10 : Int32)) hx hb dX12_dig_89 (by decide) ?_
  refine lv_iload hx hb dX12_dig_91 (lv_at hl 7 rfl) ?_
  refine lv_isub hx hb dX12_dig_93 ?_
  refine lv_i2l hx hb dX12_dig_94 rfl ?_
  refine lv_lmul hx hb dX12_dig_95 ?_
  refine lv_lload hx hb dX12_dig_96 (lv_at hl 5 rfl) ?_
  refine W.lcmp hx hb dX12_dig_98 ?_
  refine lv_if_le (tgt := 119) hx hb dX12_dig_99 (by decide) (fun c_2 => ?_) (fun c_2 => ?_)
  · have hf := pbr_t c_2 hf
    refine lv_lload hx hb dX12_dig_119 (lv_at hl 5 rfl) ?_
    refine lv_lstore (lv' := [(7, .long x7), (5, .long z0), (0, .ref a0), (1, .int x1), (2, .long x2), (4, .int x4), (9, .int x9), (10, .int x10)]) hx hb dX12_dig_121 hl (by decide) rfl (fun ls hl => ?_)
    obtain ⟨x9_3, ex9_3⟩ : ∃ z : Int32, z = x9 + (1 : Int32) := ⟨_, rfl⟩
    have hf := plt_e ex9_3 hf
    refine lv_iinc (v := x9_3) (lv' := [(9, .int x9_3), (7, .long x7), (5, .long z0), (0, .ref a0), (1, .int x1), (2, .long x2), (4, .int x4), (10, .int x10)]) hx hb dX12_dig_123 hl (k := 6) rfl (by rw [ex9_3]; rfl) (by decide) rfl (fun ls hl => ?_)
    refine lv_goto (tgt := 26) hx hb dX12_dig_126 (by decide) ?_
    exact hr26 x1 x2 x4 z0 x7 x9_3 hf _ _ hP hD hS ls (lv_sub hl [3, 4, 5, 6, 2, 1, 0] rfl)
  have hf := pbr_f c_2 hf
  refine lv_aload_n hx hb dX12_dig_102 rfl (lv_at hl 1 rfl) ?_
  refine va_get (D := D) (ci := 12) (v := .ref q_weight) (C := RX12) (T := TX12) (N := 29) hx hb hts hn_X12_dig_X12 hown hK hP 0 rfl rfl 24 (by decide) (hts _ hw_X12_dig_f65) (fun _ h9 => h9) rfl dX12_dig_103 ?_
  refine lv_iload hx hb dX12_dig_106 (lv_at hl 6 rfl) ?_
  refine va_lald hx hb hK hP 3 2 rfl rfl g_1 dX12_dig_108 ?_
  refine lv_bipush (v := (10 : Int32)) hx hb dX12_dig_109 (by decide) ?_
  refine lv_iload hx hb dX12_dig_111 (lv_at hl 7 rfl) ?_
  refine lv_isub hx hb dX12_dig_113 ?_
  refine lv_i2l hx hb dX12_dig_114 rfl ?_
  refine lv_lmul hx hb dX12_dig_115 ?_
  refine lv_goto (tgt := 121) hx hb dX12_dig_116 (by decide) ?_
  refine lv_topl (fun x7_4 ex7_4 => ?_)
  have hf := plt_e ex7_4 hf
  refine lv_lstore (lv' := [(7, .long x7_4), (5, .long z0), (0, .ref a0), (1, .int x1), (2, .long x2), (4, .int x4), (9, .int x9), (10, .int x10)]) hx hb dX12_dig_121 hl (by decide) rfl (fun ls hl => ?_)
  obtain ⟨x9_5, ex9_5⟩ : ∃ z : Int32, z = x9 + (1 : Int32) := ⟨_, rfl⟩
  have hf := plt_e ex9_5 hf
  refine lv_iinc (v := x9_5) (lv' := [(9, .int x9_5), (7, .long x7_4), (5, .long z0), (0, .ref a0), (1, .int x1), (2, .long x2), (4, .int x4), (10, .int x10)]) hx hb dX12_dig_123 hl (k := 6) rfl (by rw [ex9_5]; rfl) (by decide) rfl (fun ls hl => ?_)
  refine lv_goto (tgt := 26) hx hb dX12_dig_126 (by decide) ?_
  exact hr26 x1 x2 x4 z0 x7_4 x9_5 hf _ _ hP hD hS ls (lv_sub hl [3, 4, 5, 6, 2, 1, 0] rfl)

def f_X12_dig_26 (r10 : (Int32) → (Int64) → (Int32) → Option ((Int32))) (s_digs : Nat → Int32) (s_chance : Nat → Int32) (s_weight : Nat → Int64) : Nat → (Int32) → (Int64) → (Int32) → (Int64) → (Int64) → (Int32) → Option ((Int32))
  | 0, _, _, _, _, _, _ => none
  | k + 1, x1, x2, x4, x5, x7, x9 =>
    pbr ((5 : Int32) ≤ x9)
      (pbr ((((s_digs (0 : Int32).toNatClampNeg) >>> (x4 &&& 31)) &&& (1 : Int32)) = 0)
        (pbr ((lg_cmp (x5 + x7) x2) ≤ 0)
          (f_X12_dig_157 r10 s_digs s_chance s_weight x1 x2 x4 x5 x7)
          (f_X12_dig_158 r10 s_digs s_chance s_weight x1 x2 x4 x5 x7 (1 : Int32)))
        (f_X12_dig_157 r10 s_digs s_chance s_weight x1 x2 x4 x5 x7))
      (pgd (pin (((6 : Int32) * x9) + x4) 30) (
      plt ((s_chance (((6 : Int32) * x9) + x4).toNatClampNeg) : Int32) (fun x10_5 => (
      pgd (pin x9 15) (
      pbr ((lg_cmp ((s_weight x9.toNatClampNeg) * x10_5.toInt64) x5) ≤ 0)
        (f_X12_dig_80 r10 (f_X12_dig_26 r10 s_digs s_chance s_weight k) s_digs s_chance s_weight x1 x2 x4 x7 x9 x10_5 x5)
        (f_X12_dig_80 r10 (f_X12_dig_26 r10 s_digs s_chance s_weight k) s_digs s_chance s_weight x1 x2 x4 x7 x9 x10_5 ((s_weight x9.toNatClampNeg) * x10_5.toInt64)))))))

set_option maxRecDepth 100000 in
set_option maxHeartbeats 4000000 in
theorem k_X12_dig_26 {p : Program} {l : Launch} {e : Env} {s : State} {m : MethodId} {args : Array Value} {below : List Frame} {meth : Method} {c : Code} {A : Nat → Prop} {D : va_G} {cA : Nat → ClassId} (C0 : MX p s m args meth c cX12_dig 11 wsX12_dig RX12 (some .int) D cA) (hA : ∀ q, s.heap.size ≤ q → A q) {a0 : Nat} {q_digs : Nat} {q_chance : Nat} {q_weight : Nat} {q_text : Nat} {q_depths : Nat} {q_tune : Nat} {q_far : Nat} {q_books : Nat} {q_told : Nat} {q_years : Nat} {q_months : Nat} {q_ring : Nat} {q_woods : Nat} {q_ends : Nat} {q_wood : Nat} {q_sheets : Nat} {q_marsh : Nat} {q_oldest : Nat} {q_youngest : Nat} {q_knowns : Nat} {q_known : Nat} {q_draft : Nat} {q_isKept : Nat} {s_trace : Int64} {s_typed : Int32} {s_earliest : Int32} {s_latest : Int32} {s_firstYear : Int32} {s_rings : Int32} {s_digs : Nat → Int32} {s_chance : Nat → Int32} {s_weight : Nat → Int64} {o_r : Int32} {r10 : (Int32) → (Int64) → (Int32) → Option ((Int32))} (hr10 : ∀ (x1 : Int32) (x2 : Int64) (x4 : Int32), r10 x1 x2 x4 = some o_r → ∀ (H : Heap) (locs : List Loc), va_P D vwCl (w_X12_dig a0 q_digs q_chance q_weight q_text q_depths q_tune q_far q_books q_told q_years q_months q_ring q_woods q_ends q_wood q_sheets q_marsh q_oldest q_youngest q_knowns q_known q_draft q_isKept cA s_trace s_typed s_earliest s_latest s_firstYear s_rings s_digs s_chance s_weight) H → va_D A (w_X12_dig a0 q_digs q_chance q_weight q_text q_depths q_tune q_far q_books q_told q_years q_months q_ring q_woods q_ends q_wood q_sheets q_marsh q_oldest q_youngest q_knowns q_known q_draft q_isKept cA s_trace s_typed s_earliest s_latest s_firstYear s_rings s_digs s_chance s_weight) → va_S A s.heap H locs → ∀ ls : Array Slot, lv_has ls 11 [(0, .ref a0), (1, .int x1), (2, .long x2), (4, .int x4)] → W p l e rm_X12_dig s m args below meth c H locs 0 0 (MQ below (CQ D (some (.int o_r)) (w_X12_dig a0 q_digs q_chance q_weight q_text q_depths q_tune q_far q_books q_told q_years q_months q_ring q_woods q_ends q_wood q_sheets q_marsh q_oldest q_youngest q_knowns q_known q_draft q_isKept cA s_trace s_typed s_earliest s_latest s_firstYear s_rings s_digs s_chance s_weight) A) args s 0 0 A) (F0 m 10 ls [])) : ∀ (k : Nat) (x1 : Int32) (x2 : Int64) (x4 : Int32) (x5 : Int64) (x7 : Int64) (x9 : Int32), f_X12_dig_26 r10 s_digs s_chance s_weight k x1 x2 x4 x5 x7 x9 = some o_r → ∀ (H : Heap) (locs : List Loc), va_P D vwCl (w_X12_dig a0 q_digs q_chance q_weight q_text q_depths q_tune q_far q_books q_told q_years q_months q_ring q_woods q_ends q_wood q_sheets q_marsh q_oldest q_youngest q_knowns q_known q_draft q_isKept cA s_trace s_typed s_earliest s_latest s_firstYear s_rings s_digs s_chance s_weight) H → va_D A (w_X12_dig a0 q_digs q_chance q_weight q_text q_depths q_tune q_far q_books q_told q_years q_months q_ring q_woods q_ends q_wood q_sheets q_marsh q_oldest q_youngest q_knowns q_known q_draft q_isKept cA s_trace s_typed s_earliest s_latest s_firstYear s_rings s_digs s_chance s_weight) → va_S A s.heap H locs → ∀ ls : Array Slot, lv_has ls 11 [(0, .ref a0), (1, .int x1), (2, .long x2), (4, .int x4), (5, .long x5), (7, .long x7), (9, .int x9)] → W p l e rm_X12_dig s m args below meth c H locs 0 0 (MQ below (CQ D (some (.int o_r)) (w_X12_dig a0 q_digs q_chance q_weight q_text q_depths q_tune q_far q_books q_told q_years q_months q_ring q_woods q_ends q_wood q_sheets q_marsh q_oldest q_youngest q_knowns q_known q_draft q_isKept cA s_trace s_typed s_earliest s_latest s_firstYear s_rings s_digs s_chance s_weight) A) args s 0 0 A) (F0 m 26 ls []) := by
  obtain ⟨hx, hb, hml, hown, hts, hr, hlocks, hX⟩ := C0
  have hK := hX.1
  have hN := hX.2
  intro k
  induction k with
  | zero =>
    intro x1 x2 x4 x5 x7 x9 hf
    cases hf
  | succ k ih =>
    intro x1 x2 x4 x5 x7 x9 hf H locs hP hD hS ls hl
    rw [f_X12_dig_26] at hf
    refine lv_iload hx hb dX12_dig_26 (lv_at hl 6 rfl) ?_
    refine lv_iconst (v := (5 : Int32)) hx hb dX12_dig_28 (by decide) ?_
    refine lv_icmp_ge (tgt := 129) hx hb dX12_dig_29 (by decide) (fun c_1 => ?_) (fun c_1 => ?_)
    · have hf := pbr_t c_1 hf
      refine lv_aload_n hx hb dX12_dig_129 rfl (lv_at hl 0 rfl) ?_
      refine va_get (D := D) (ci := 12) (v := .ref q_digs) (C := RX12) (T := TX12) (N := 29) hx hb hts hn_X12_dig_X12 hown hK hP 0 rfl rfl 26 (by decide) (hts _ hw_X12_dig_f72) (fun _ h9 => h9) rfl dX12_dig_130 ?_
      refine lv_iconst (v := (0 : Int32)) hx hb dX12_dig_133 (by decide) ?_
      refine va_iald hx hb hK hP 1 1 rfl rfl (show pin (0 : Int32) 3 by decide +kernel) dX12_dig_134 ?_
      refine lv_iload hx hb dX12_dig_135 (lv_at hl 3 rfl) ?_
      refine lv_ishr hx hb dX12_dig_137 ?_
      refine lv_iconst (v := (1 : Int32)) hx hb dX12_dig_138 (by decide) ?_
      refine lv_iand hx hb dX12_dig_139 ?_
      refine lv_if_ne (tgt := 157) hx hb dX12_dig_140 (by decide) (fun c_2 => ?_) (fun c_2 => ?_)
      · have hf := pbr_f c_2 hf
        exact k_X12_dig_157 ⟨hx, hb, hml, hown, hts, hr, hlocks, hX⟩ hA hr10 x1 x2 x4 x5 x7 hf _ _ hP hD hS ls (lv_sub hl [0, 1, 2, 3, 4, 5] rfl)
      have hf := pbr_t c_2 hf
      refine lv_lload hx hb dX12_dig_143 (lv_at hl 4 rfl) ?_
      refine lv_lload hx hb dX12_dig_145 (lv_at hl 5 rfl) ?_
      refine lv_ladd hx hb dX12_dig_147 ?_
      refine lv_lload_n hx hb dX12_dig_148 rfl (lv_at hl 2 rfl) ?_
      refine W.lcmp hx hb dX12_dig_149 ?_
      refine lv_if_le (tgt := 157) hx hb dX12_dig_150 (by decide) (fun c_3 => ?_) (fun c_3 => ?_)
      · have hf := pbr_t c_3 hf
        exact k_X12_dig_157 ⟨hx, hb, hml, hown, hts, hr, hlocks, hX⟩ hA hr10 x1 x2 x4 x5 x7 hf _ _ hP hD hS ls (lv_sub hl [0, 1, 2, 3, 4, 5] rfl)
      have hf := pbr_f c_3 hf
      refine lv_iconst (v := (1 : Int32)) hx hb dX12_dig_153 (by decide) ?_
      refine lv_goto (tgt := 158) hx hb dX12_dig_154 (by decide) ?_
      exact k_X12_dig_158 ⟨hx, hb, hml, hown, hts, hr, hlocks, hX⟩ hA hr10 x1 x2 x4 x5 x7 (1 : Int32) hf _ _ hP hD hS ls (lv_sub hl [0, 1, 2, 3, 4, 5] rfl)
    have hf := pbr_f c_1 hf
    refine lv_aload_n hx hb dX12_dig_32 rfl (lv_at hl 0 rfl) ?_
    refine va_get (D := D) (ci := 12) (v := .ref q_chance) (C := RX12) (T := TX12) (N := 29) hx hb hts hn_X12_dig_X12 hown hK hP 0 rfl rfl 25 (by decide) (hts _ hw_X12_dig_f69) (fun _ h9 => h9) rfl dX12_dig_33 ?_
    refine lv_bipush (v := (6 : Int32)) hx hb dX12_dig_36 (by decide) ?_
    refine lv_iload hx hb dX12_dig_38 (lv_at hl 6 rfl) ?_
    refine lv_imul hx hb dX12_dig_40 ?_
    refine lv_iload hx hb dX12_dig_41 (lv_at hl 3 rfl) ?_
    refine lv_iadd hx hb dX12_dig_43 ?_
    obtain ⟨g_4, hf⟩ := pgd_e hf
    refine va_iald hx hb hK hP 2 1 rfl rfl g_4 dX12_dig_44 ?_
    refine lv_topi (fun x10_5 ex10_5 => ?_)
    have hf := plt_e ex10_5 hf
    refine lv_istore (lv' := [(10, .int x10_5), (0, .ref a0), (1, .int x1), (2, .long x2), (4, .int x4), (5, .long x5), (7, .long x7), (9, .int x9)]) hx hb dX12_dig_45 hl (by decide) rfl (fun ls hl => ?_)
    refine lv_aload_n hx hb dX12_dig_47 rfl (lv_at hl 1 rfl) ?_
    refine va_get (D := D) (ci := 12) (v := .ref q_weight) (C := RX12) (T := TX12) (N := 29) hx hb hts hn_X12_dig_X12 hown hK hP 0 rfl rfl 24 (by decide) (hts _ hw_X12_dig_f65) (fun _ h9 => h9) rfl dX12_dig_48 ?_
    refine lv_iload hx hb dX12_dig_51 (lv_at hl 7 rfl) ?_
    obtain ⟨g_6, hf⟩ := pgd_e hf
    refine va_lald hx hb hK hP 3 2 rfl rfl g_6 dX12_dig_53 ?_
    refine lv_iload hx hb dX12_dig_54 (lv_at hl 0 rfl) ?_
    refine lv_i2l hx hb dX12_dig_56 rfl ?_
    refine lv_lmul hx hb dX12_dig_57 ?_
    refine lv_lload hx hb dX12_dig_58 (lv_at hl 5 rfl) ?_
    refine W.lcmp hx hb dX12_dig_60 ?_
    refine lv_if_le (tgt := 78) hx hb dX12_dig_61 (by decide) (fun c_7 => ?_) (fun c_7 => ?_)
    · have hf := pbr_t c_7 hf
      refine lv_lload hx hb dX12_dig_78 (lv_at hl 5 rfl) ?_
      exact k_X12_dig_80 ⟨hx, hb, hml, hown, hts, hr, hlocks, hX⟩ hA hr10 ih x1 x2 x4 x7 x9 x10_5 x5 hf _ _ hP hD hS ls (lv_sub hl [1, 2, 3, 4, 6, 7, 0] rfl)
    have hf := pbr_f c_7 hf
    refine lv_aload_n hx hb dX12_dig_64 rfl (lv_at hl 1 rfl) ?_
    refine va_get (D := D) (ci := 12) (v := .ref q_weight) (C := RX12) (T := TX12) (N := 29) hx hb hts hn_X12_dig_X12 hown hK hP 0 rfl rfl 24 (by decide) (hts _ hw_X12_dig_f65) (fun _ h9 => h9) rfl dX12_dig_65 ?_
    refine lv_iload hx hb dX12_dig_68 (lv_at hl 7 rfl) ?_
    refine va_lald hx hb hK hP 3 2 rfl rfl g_6 dX12_dig_70 ?_
    refine lv_iload hx hb dX12_dig_71 (lv_at hl 0 rfl) ?_
    refine lv_i2l hx hb dX12_dig_73 rfl ?_
    refine lv_lmul hx hb dX12_dig_74 ?_
    refine lv_goto (tgt := 80) hx hb dX12_dig_75 (by decide) ?_
    exact k_X12_dig_80 ⟨hx, hb, hml, hown, hts, hr, hlocks, hX⟩ hA hr10 ih x1 x2 x4 x7 x9 x10_5 ((s_weight x9.toNatClampNeg) * x10_5.toInt64) hf _ _ hP hD hS ls (lv_sub hl [1, 2, 3, 4, 6, 7, 0] rfl)

def f_X12_dig_10 (s_digs : Nat → Int32) (s_chance : Nat → Int32) (s_weight : Nat → Int64) : Nat → (Int32) → (Int64) → (Int32) → Option ((Int32))
  | 0, _, _, _ => none
  | k + 1, x1, x2, x4 =>
    pbr ((6 : Int32) ≤ x4)
      (some (x1))
      (f_X12_dig_26 (f_X12_dig_10 s_digs s_chance s_weight k) s_digs s_chance s_weight FU x1 x2 x4 (0 : Int64) (0 : Int64) (0 : Int32))

set_option maxRecDepth 100000 in
set_option maxHeartbeats 4000000 in
theorem k_X12_dig_10 {p : Program} {l : Launch} {e : Env} {s : State} {m : MethodId} {args : Array Value} {below : List Frame} {meth : Method} {c : Code} {A : Nat → Prop} {D : va_G} {cA : Nat → ClassId} (C0 : MX p s m args meth c cX12_dig 11 wsX12_dig RX12 (some .int) D cA) (hA : ∀ q, s.heap.size ≤ q → A q) {a0 : Nat} {q_digs : Nat} {q_chance : Nat} {q_weight : Nat} {q_text : Nat} {q_depths : Nat} {q_tune : Nat} {q_far : Nat} {q_books : Nat} {q_told : Nat} {q_years : Nat} {q_months : Nat} {q_ring : Nat} {q_woods : Nat} {q_ends : Nat} {q_wood : Nat} {q_sheets : Nat} {q_marsh : Nat} {q_oldest : Nat} {q_youngest : Nat} {q_knowns : Nat} {q_known : Nat} {q_draft : Nat} {q_isKept : Nat} {s_trace : Int64} {s_typed : Int32} {s_earliest : Int32} {s_latest : Int32} {s_firstYear : Int32} {s_rings : Int32} {s_digs : Nat → Int32} {s_chance : Nat → Int32} {s_weight : Nat → Int64} {o_r : Int32} : ∀ (k : Nat) (x1 : Int32) (x2 : Int64) (x4 : Int32), f_X12_dig_10 s_digs s_chance s_weight k x1 x2 x4 = some o_r → ∀ (H : Heap) (locs : List Loc), va_P D vwCl (w_X12_dig a0 q_digs q_chance q_weight q_text q_depths q_tune q_far q_books q_told q_years q_months q_ring q_woods q_ends q_wood q_sheets q_marsh q_oldest q_youngest q_knowns q_known q_draft q_isKept cA s_trace s_typed s_earliest s_latest s_firstYear s_rings s_digs s_chance s_weight) H → va_D A (w_X12_dig a0 q_digs q_chance q_weight q_text q_depths q_tune q_far q_books q_told q_years q_months q_ring q_woods q_ends q_wood q_sheets q_marsh q_oldest q_youngest q_knowns q_known q_draft q_isKept cA s_trace s_typed s_earliest s_latest s_firstYear s_rings s_digs s_chance s_weight) → va_S A s.heap H locs → ∀ ls : Array Slot, lv_has ls 11 [(0, .ref a0), (1, .int x1), (2, .long x2), (4, .int x4)] → W p l e rm_X12_dig s m args below meth c H locs 0 0 (MQ below (CQ D (some (.int o_r)) (w_X12_dig a0 q_digs q_chance q_weight q_text q_depths q_tune q_far q_books q_told q_years q_months q_ring q_woods q_ends q_wood q_sheets q_marsh q_oldest q_youngest q_knowns q_known q_draft q_isKept cA s_trace s_typed s_earliest s_latest s_firstYear s_rings s_digs s_chance s_weight) A) args s 0 0 A) (F0 m 10 ls []) := by
  obtain ⟨hx, hb, hml, hown, hts, hr, hlocks, hX⟩ := C0
  have hK := hX.1
  have hN := hX.2
  intro k
  induction k with
  | zero =>
    intro x1 x2 x4 hf
    cases hf
  | succ k ih =>
    intro x1 x2 x4 hf H locs hP hD hS ls hl
    rw [f_X12_dig_10] at hf
    refine lv_iload hx hb dX12_dig_10 (lv_at hl 3 rfl) ?_
    refine lv_bipush (v := (6 : Int32)) hx hb dX12_dig_12 (by decide) ?_
    refine lv_icmp_ge (tgt := 193) hx hb dX12_dig_14 (by decide) (fun c_1 => ?_) (fun c_1 => ?_)
    · have hf := pbr_t c_1 hf
      refine lv_iload_n hx hb dX12_dig_193 rfl (lv_at hl 1 rfl) ?_
      obtain rfl := pe1 hf
      exact m_iret hx hb hr hlocks hP hS dX12_dig_194
    have hf := pbr_f c_1 hf
    refine lv_lconst (v := (0 : Int64)) hx hb dX12_dig_17 (by decide) ?_
    refine lv_lstore (lv' := [(5, .long (0 : Int64)), (0, .ref a0), (1, .int x1), (2, .long x2), (4, .int x4)]) hx hb dX12_dig_18 hl (by decide) rfl (fun ls hl => ?_)
    refine lv_lconst (v := (0 : Int64)) hx hb dX12_dig_20 (by decide) ?_
    refine lv_lstore (lv' := [(7, .long (0 : Int64)), (5, .long (0 : Int64)), (0, .ref a0), (1, .int x1), (2, .long x2), (4, .int x4)]) hx hb dX12_dig_21 hl (by decide) rfl (fun ls hl => ?_)
    refine lv_iconst (v := (0 : Int32)) hx hb dX12_dig_23 (by decide) ?_
    refine lv_istore (lv' := [(9, .int (0 : Int32)), (7, .long (0 : Int64)), (5, .long (0 : Int64)), (0, .ref a0), (1, .int x1), (2, .long x2), (4, .int x4)]) hx hb dX12_dig_24 hl (by decide) rfl (fun ls hl => ?_)
    exact k_X12_dig_26 ⟨hx, hb, hml, hown, hts, hr, hlocks, hX⟩ hA ih FU x1 x2 x4 (0 : Int64) (0 : Int64) (0 : Int32) hf _ _ hP hD hS ls (lv_sub hl [3, 4, 5, 6, 2, 1, 0] rfl)

def f_X12_dig (s_digs : Nat → Int32) (s_chance : Nat → Int32) (s_weight : Nat → Int64) : Option ((Int32)) :=
  f_X12_dig_10 s_digs s_chance s_weight FU (-9 : Int32) (-1 : Int64) (0 : Int32)

set_option maxRecDepth 100000 in
set_option maxHeartbeats 4000000 in
theorem ct_X12_dig (l : Launch) (D : va_G) (cA : Nat → ClassId) (a0 : Nat) (q_digs : Nat) (q_chance : Nat) (q_weight : Nat) (q_text : Nat) (q_depths : Nat) (q_tune : Nat) (q_far : Nat) (q_books : Nat) (q_told : Nat) (q_years : Nat) (q_months : Nat) (q_ring : Nat) (q_woods : Nat) (q_ends : Nat) (q_wood : Nat) (q_sheets : Nat) (q_marsh : Nat) (q_oldest : Nat) (q_youngest : Nat) (q_knowns : Nat) (q_known : Nat) (q_draft : Nat) (q_isKept : Nat) (s_trace : Int64) (s_typed : Int32) (s_earliest : Int32) (s_latest : Int32) (s_firstYear : Int32) (s_rings : Int32) (s_digs : Nat → Int32) (s_chance : Nat → Int32) (s_weight : Nat → Int64) (o_r : Int32) (hf : f_X12_dig s_digs s_chance s_weight = some o_r) : CT l yX12_dig wsX12_dig rm_X12_dig D cA [.ref a0] (w_X12_dig a0 q_digs q_chance q_weight q_text q_depths q_tune q_far q_books q_told q_years q_months q_ring q_woods q_ends q_wood q_sheets q_marsh q_oldest q_youngest q_knowns q_known q_draft q_isKept cA s_trace s_typed s_earliest s_latest s_firstYear s_rings s_digs s_chance s_weight) (w_X12_dig a0 q_digs q_chance q_weight q_text q_depths q_tune q_far q_books q_told q_years q_months q_ring q_woods q_ends q_wood q_sheets q_marsh q_oldest q_youngest q_knowns q_known q_draft q_isKept cA s_trace s_typed s_earliest s_latest s_firstYear s_rings s_digs s_chance s_weight) (some (.int o_r)) := by
  refine CT.ofW (cc := cX12_dig) (maxL := 11) (ret := (some .int)) (by decide +kernel) rfl (Nat.le_of_ble_eq_true rfl) ?_
  intro p e s m below meth c A C0 hA hP hD ls hl
  have C0 : MX p s m [.ref a0].toArray meth c cX12_dig 11 wsX12_dig RX12 (some .int) D cA := C0
  have hl : lv_has ls 11 [(0, .ref a0)] := hl
  obtain ⟨hx, hb, hml, hown, hts, hr, hlocks, hX⟩ := id C0
  have hK := hX.1
  have hN := hX.2
  have hS : va_S A s.heap s.heap [] := va_S.rf
  unfold f_X12_dig at hf
  refine lv_bipush (v := (-9 : Int32)) hx hb dX12_dig_0 (by decide) ?_
  refine lv_istore_n (lv' := [(1, .int (-9 : Int32)), (0, .ref a0)]) hx hb dX12_dig_2 rfl hl (by decide) rfl (fun ls hl => ?_)
  refine lv_ldc2 (v := (-1 : Int64)) hx hb hown (hts _ hw_X12_dig_c170) dX12_dig_3 ?_
  refine lv_lstore_n (lv' := [(2, .long (-1 : Int64)), (1, .int (-9 : Int32)), (0, .ref a0)]) hx hb dX12_dig_6 rfl hl (by decide) rfl (fun ls hl => ?_)
  refine lv_iconst (v := (0 : Int32)) hx hb dX12_dig_7 (by decide) ?_
  refine lv_istore (lv' := [(4, .int (0 : Int32)), (2, .long (-1 : Int64)), (1, .int (-9 : Int32)), (0, .ref a0)]) hx hb dX12_dig_8 hl (by decide) rfl (fun ls hl => ?_)
  exact k_X12_dig_10 C0 hA FU (-9 : Int32) (-1 : Int64) (0 : Int32) hf _ _ hP hD hS ls (lv_sub hl [3, 2, 1, 0] rfl)
