/-! ===== OrphanWaveModel.isDigit(I)Z ===== -/
abbrev rm_X12_isDigit : Room := { frames := 1, cells := 0, slots := 0, locals := 22 }
abbrev w_X12_isDigit  (cA : Nat → ClassId)  : va_W := []

def f_X12_isDigit (x0 : Int32) : Option ((Int32)) :=
  pcl (f_X12_in x0 (48 : Int32) (57 : Int32)) (fun r_1 => (
  pgd (r_1 = 0 ∨ r_1 = 1) (
  some (r_1))))

set_option maxRecDepth 100000 in
set_option maxHeartbeats 4000000 in
theorem ct_X12_isDigit (l : Launch) (D : va_G) (cA : Nat → ClassId) (x0 : Int32) (o_r : Int32) (hf : f_X12_isDigit x0 = some o_r) : CT l yX12_isDigit wsX12_isDigit rm_X12_isDigit D cA [.int x0] (w_X12_isDigit  cA ) (w_X12_isDigit  cA ) (some (.int o_r)) := by
  refine CT.ofW (cc := cX12_isDigit) (maxL := 1) (ret := (some .boolean)) (by decide +kernel) rfl (Nat.le_of_ble_eq_true rfl) ?_
  intro p e s m below meth c A C0 hA hP hD ls hl
  have C0 : MX p s m [.int x0].toArray meth c cX12_isDigit 1 wsX12_isDigit RX12 (some .boolean) D cA := C0
  have hl : lv_has ls 1 [(0, .int x0)] := hl
  obtain ⟨hx, hb, hml, hown, hts, hr, hlocks, hX⟩ := id C0
  have hK := hX.1
  have hN := hX.2
  have hS : va_S A s.heap s.heap [] := va_S.rf
  unfold f_X12_isDigit at hf
  refine lv_iload_n hx hb dX12_isDigit_0 rfl (lv_at hl 0 rfl) ?_
  refine lv_bipush (v := (48 : Int32)) hx hb dX12_isDigit_1 (by decide) ?_
  refine lv_bipush (v := (57 : Int32)) hx hb dX12_isDigit_3 (by decide) ?_
  obtain ⟨r_1, hc_2, hf⟩ := pcl_e hf
  refine m_callS2 (As := [.int x0, .int (48 : Int32), .int (57 : Int32)]) (rest := []) ⟨hx, hb, hml, hown, hts⟩ hX (ct_X12_in l D cA x0 (48 : Int32) (57 : Int32) r_1 hc_2) (va_cwS 3 hts gX12_isDigit_X12_in rfl rfl rfl (by decide +kernel) ⟨Nat.le_of_ble_eq_true rfl, Nat.le_of_ble_eq_true rfl⟩) hP hD hS hA [] [] 0 (by decide) rfl rfl (WS' := (w_X12_isDigit  cA )) (WR := []) rfl rfl rfl rfl (by decide) (by decide) rfl hl.1 rfl (st' := [.int r_1]) rfl (Nat.le_of_ble_eq_true rfl) ⟨Nat.zero_le _, Nat.zero_le _⟩ dX12_isDigit_5 (fun H locs hP hD hS => ?_)
  obtain ⟨g_3, hf⟩ := pgd_e hf
  obtain rfl := pe1 hf
  exact m_zret g_3 hx hb hr hlocks hP hS dX12_isDigit_8

/-! ===== OrphanWaveModel.calendar()I ===== -/
abbrev rm_X12_calendar : Room := { frames := 2, cells := 0, slots := 0, locals := 42 }
abbrev w_X12_calendar (a0 : Nat) (q_text : Nat) (q_months : Nat) (q_years : Nat) (q_depths : Nat) (q_tune : Nat) (q_far : Nat) (q_books : Nat) (q_told : Nat) (q_ring : Nat) (q_woods : Nat) (q_ends : Nat) (q_wood : Nat) (q_sheets : Nat) (q_marsh : Nat) (q_oldest : Nat) (q_youngest : Nat) (q_knowns : Nat) (q_known : Nat) (q_weight : Nat) (q_chance : Nat) (q_digs : Nat) (q_draft : Nat) (q_isKept : Nat) (cA : Nat → ClassId) (s_trace : Int64) (s_typed : Int32) (s_earliest : Int32) (s_latest : Int32) (s_firstYear : Int32) (s_rings : Int32) (s_text : Nat → Int32) (s_months : Nat → Int32) (s_years : Nat → Int32) : va_W := [(a0, .inr (12, [.long s_trace, .ref q_text, .int s_typed, .ref q_depths, .ref q_tune, .ref q_far, .ref q_books, .ref q_told, .int s_earliest, .int s_latest, .ref q_years, .ref q_months, .int s_firstYear, .int s_rings, .ref q_ring, .ref q_woods, .ref q_ends, .ref q_wood, .ref q_sheets, .ref q_marsh, .ref q_oldest, .ref q_youngest, .ref q_knowns, .ref q_known, .ref q_weight, .ref q_chance, .ref q_digs, .ref q_draft, .ref q_isKept])), (q_text, .inl (cA 0, 400, .inl s_text)), (q_months, .inl (cA 1, 224, .inl s_months)), (q_years, .inl (cA 1, 2, .inl s_years))]
theorem hn_X12_calendar_X12 : ∀ w ∈ u_ws RX12 TX12 29, w ∈ wsX12_calendar := by decide +kernel
theorem hw_X12_calendar_f90 : Cond.fieldLink RX12 90 "OrphanWaveModel" "typed" "I" ∈ wsX12_calendar := by decide +kernel
theorem hw_X12_calendar_f7 : Cond.fieldLink RX12 7 "OrphanWaveModel" "text" "[B" ∈ wsX12_calendar := by decide +kernel
theorem hw_X12_calendar_f32 : Cond.fieldLink RX12 32 "OrphanWaveModel" "months" "[I" ∈ wsX12_calendar := by decide +kernel
theorem hw_X12_calendar_f29 : Cond.fieldLink RX12 29 "OrphanWaveModel" "years" "[I" ∈ wsX12_calendar := by decide +kernel

def f_X12_calendar_329 (s_text : Nat → Int32) : Nat → (Int32) → (Int32) → (Int32) → (Nat → Int32) → (Nat → Int32) → Option ((Int32) × (Int32) × (Nat → Int32) × (Nat → Int32))
  | 0, _, _, _, _, _ => none
  | k + 1, x3, x5, s_typed, s_months, s_years =>
    pbr ((112 : Int32) ≤ x5)
      (some (x3, (0 : Int32), s_months, s_years))
      (pgd (pin ((112 : Int32) + x5) 224) (
      pgd (pin x5 224) (
      plt (upd s_months x5.toNatClampNeg (s_months ((112 : Int32) + x5).toNatClampNeg) : Nat → Int32) (fun f_4 => (
      plt (x5 + (1 : Int32) : Int32) (fun x5_5 => (
      (f_X12_calendar_329 s_text k) x3 x5_5 s_typed f_4 s_years)))))))

set_option maxRecDepth 100000 in
set_option maxHeartbeats 4000000 in
theorem k_X12_calendar_329 {p : Program} {l : Launch} {e : Env} {s : State} {m : MethodId} {args : Array Value} {below : List Frame} {meth : Method} {c : Code} {A : Nat → Prop} {D : va_G} {cA : Nat → ClassId} (C0 : MX p s m args meth c cX12_calendar 10 wsX12_calendar RX12 (some .int) D cA) (hA : ∀ q, s.heap.size ≤ q → A q) {a0 : Nat} {q_text : Nat} {q_months : Nat} {q_years : Nat} {q_depths : Nat} {q_tune : Nat} {q_far : Nat} {q_books : Nat} {q_told : Nat} {q_ring : Nat} {q_woods : Nat} {q_ends : Nat} {q_wood : Nat} {q_sheets : Nat} {q_marsh : Nat} {q_oldest : Nat} {q_youngest : Nat} {q_knowns : Nat} {q_known : Nat} {q_weight : Nat} {q_chance : Nat} {q_digs : Nat} {q_draft : Nat} {q_isKept : Nat} {s_trace : Int64} {s_earliest : Int32} {s_latest : Int32} {s_firstYear : Int32} {s_rings : Int32} {s_text : Nat → Int32} {o_r : Int32} {o_typed : Int32} {o_months : Nat → Int32} {o_years : Nat → Int32} : ∀ (k : Nat) (x3 : Int32) (x5 : Int32) (s_typed : Int32) (s_months : Nat → Int32) (s_years : Nat → Int32), f_X12_calendar_329 s_text k x3 x5 s_typed s_months s_years = some (o_r, o_typed, o_months, o_years) → ∀ (H : Heap) (locs : List Loc), va_P D vwCl (w_X12_calendar a0 q_text q_months q_years q_depths q_tune q_far q_books q_told q_ring q_woods q_ends q_wood q_sheets q_marsh q_oldest q_youngest q_knowns q_known q_weight q_chance q_digs q_draft q_isKept cA s_trace s_typed s_earliest s_latest s_firstYear s_rings s_text s_months s_years) H → va_D A (w_X12_calendar a0 q_text q_months q_years q_depths q_tune q_far q_books q_told q_ring q_woods q_ends q_wood q_sheets q_marsh q_oldest q_youngest q_knowns q_known q_weight q_chance q_digs q_draft q_isKept cA s_trace s_typed s_earliest s_latest s_firstYear s_rings s_text s_months s_years) → va_S A s.heap H locs → ∀ ls : Array Slot, lv_has ls 10 [(0, .ref a0), (3, .int x3), (5, .int x5)] → W p l e rm_X12_calendar s m args below meth c H locs 0 0 (MQ below (CQ D (some (.int o_r)) (w_X12_calendar a0 q_text q_months q_years q_depths q_tune q_far q_books q_told q_ring q_woods q_ends q_wood q_sheets q_marsh q_oldest q_youngest q_knowns q_known q_weight q_chance q_digs q_draft q_isKept cA s_trace o_typed s_earliest s_latest s_firstYear s_rings s_text o_months o_years) A) args s 0 0 A) (F0 m 329 ls []) := by
  obtain ⟨hx, hb, hml, hown, hts, hr, hlocks, hX⟩ := C0
  have hK := hX.1
  have hN := hX.2
  intro k
  induction k with
  | zero =>
    intro x3 x5 s_typed s_months s_years hf
    cases hf
  | succ k ih =>
    intro x3 x5 s_typed s_months s_years hf H locs hP hD hS ls hl
    rw [f_X12_calendar_329] at hf
    refine lv_iload hx hb dX12_calendar_329 (lv_at hl 2 rfl) ?_
    refine lv_bipush (v := (112 : Int32)) hx hb dX12_calendar_331 (by decide) ?_
    refine lv_icmp_ge (tgt := 359) hx hb dX12_calendar_333 (by decide) (fun c_1 => ?_) (fun c_1 => ?_)
    · have hf := pbr_t c_1 hf
      refine lv_aload_n hx hb dX12_calendar_359 rfl (lv_at hl 0 rfl) ?_
      refine lv_iconst (v := (0 : Int32)) hx hb dX12_calendar_360 (by decide) ?_
      refine va_put (D := D) (ci := 12) (v := .int (0 : Int32)) (ty := .int) (C := RX12) (T := TX12) (N := 29) hx hb hts hn_X12_calendar_X12 tyX12 tyX12_ok nmX12 hown hK hP hD hS 0 rfl rfl 2 (by decide) (hts _ hw_X12_calendar_f90) (fun _ h9 => h9) rfl (by decide +kernel) rfl rfl (Nat.le_of_ble_eq_true rfl) dX12_calendar_361 (fun H locs hP hD hS => ?_)
      have hP : va_P D vwCl (w_X12_calendar a0 q_text q_months q_years q_depths q_tune q_far q_books q_told q_ring q_woods q_ends q_wood q_sheets q_marsh q_oldest q_youngest q_knowns q_known q_weight q_chance q_digs q_draft q_isKept cA s_trace (0 : Int32) s_earliest s_latest s_firstYear s_rings s_text s_months s_years) H := hP
      have hD : va_D A (w_X12_calendar a0 q_text q_months q_years q_depths q_tune q_far q_books q_told q_ring q_woods q_ends q_wood q_sheets q_marsh q_oldest q_youngest q_knowns q_known q_weight q_chance q_digs q_draft q_isKept cA s_trace (0 : Int32) s_earliest s_latest s_firstYear s_rings s_text s_months s_years) := hD
      refine lv_iload_n hx hb dX12_calendar_364 rfl (lv_at hl 1 rfl) ?_
      obtain ⟨rfl, rfl, rfl, rfl⟩ := pe4 hf
      exact m_iret hx hb hr hlocks hP hS dX12_calendar_365
    have hf := pbr_f c_1 hf
    refine lv_aload_n hx hb dX12_calendar_336 rfl (lv_at hl 0 rfl) ?_
    refine va_get (D := D) (ci := 12) (v := .ref q_months) (C := RX12) (T := TX12) (N := 29) hx hb hts hn_X12_calendar_X12 hown hK hP 0 rfl rfl 11 (by decide) (hts _ hw_X12_calendar_f32) (fun _ h9 => h9) rfl dX12_calendar_337 ?_
    refine lv_iload hx hb dX12_calendar_340 (lv_at hl 2 rfl) ?_
    refine lv_aload_n hx hb dX12_calendar_342 rfl (lv_at hl 0 rfl) ?_
    refine va_get (D := D) (ci := 12) (v := .ref q_months) (C := RX12) (T := TX12) (N := 29) hx hb hts hn_X12_calendar_X12 hown hK hP 0 rfl rfl 11 (by decide) (hts _ hw_X12_calendar_f32) (fun _ h9 => h9) rfl dX12_calendar_343 ?_
    refine lv_bipush (v := (112 : Int32)) hx hb dX12_calendar_346 (by decide) ?_
    refine lv_iload hx hb dX12_calendar_348 (lv_at hl 2 rfl) ?_
    refine lv_iadd hx hb dX12_calendar_350 ?_
    obtain ⟨g_2, hf⟩ := pgd_e hf
    refine va_iald hx hb hK hP 2 1 rfl rfl g_2 dX12_calendar_351 ?_
    obtain ⟨g_3, hf⟩ := pgd_e hf
    refine va_iast hx hb hK hP hD hS 2 1 rfl rfl g_3 dX12_calendar_352 (fun H locs hP hD hS => ?_)
    obtain ⟨f_4, ef_4⟩ : ∃ z : Nat → Int32, z = upd s_months x5.toNatClampNeg (s_months ((112 : Int32) + x5).toNatClampNeg) := ⟨_, rfl⟩
    have hf := plt_e ef_4 hf
    have hP : va_P D vwCl (w_X12_calendar a0 q_text q_months q_years q_depths q_tune q_far q_books q_told q_ring q_woods q_ends q_wood q_sheets q_marsh q_oldest q_youngest q_knowns q_known q_weight q_chance q_digs q_draft q_isKept cA s_trace s_typed s_earliest s_latest s_firstYear s_rings s_text f_4 s_years) H := by rw [ef_4]; exact hP
    have hD : va_D A (w_X12_calendar a0 q_text q_months q_years q_depths q_tune q_far q_books q_told q_ring q_woods q_ends q_wood q_sheets q_marsh q_oldest q_youngest q_knowns q_known q_weight q_chance q_digs q_draft q_isKept cA s_trace s_typed s_earliest s_latest s_firstYear s_rings s_text f_4 s_years) := by rw [ef_4]; exact hD
    obtain ⟨x5_5, ex5_5⟩ : ∃ z : Int32, z = x5 + (1 : Int32) := ⟨_, rfl⟩
    have hf := plt_e ex5_5 hf
    refine lv_iinc (v := x5_5) (lv' := [(5, .int x5_5), (0, .ref a0), (3, .int x3)]) hx hb dX12_calendar_353 hl (k := 2) rfl (by rw [ex5_5]; rfl) (by decide) rfl (fun ls hl => ?_)
    refine lv_goto (tgt := 329) hx hb dX12_calendar_356 (by decide) ?_
    exact ih x3 x5_5 s_typed f_4 s_years hf _ _ hP hD hS ls (lv_sub hl [1, 2, 0] rfl)

def f_X12_calendar_307 (s_text : Nat → Int32) (x3 : Int32) (z0 : Int32) (s_typed : Int32) (s_months : Nat → Int32) (s_years : Nat → Int32) : Option ((Int32) × (Int32) × (Nat → Int32) × (Nat → Int32)) :=
  pbr (z0 = (-9 : Int32))
    (plt (upd s_years (0 : Int32).toNatClampNeg x3 : Nat → Int32) (fun f_2 => (
    f_X12_calendar_329 s_text FU x3 (0 : Int32) s_typed s_months f_2)))
    (some (((-10 : Int32) - z0), s_typed, s_months, s_years))

set_option maxRecDepth 100000 in
set_option maxHeartbeats 4000000 in
theorem k_X12_calendar_307 {p : Program} {l : Launch} {e : Env} {s : State} {m : MethodId} {args : Array Value} {below : List Frame} {meth : Method} {c : Code} {A : Nat → Prop} {D : va_G} {cA : Nat → ClassId} (C0 : MX p s m args meth c cX12_calendar 10 wsX12_calendar RX12 (some .int) D cA) (hA : ∀ q, s.heap.size ≤ q → A q) {a0 : Nat} {q_text : Nat} {q_months : Nat} {q_years : Nat} {q_depths : Nat} {q_tune : Nat} {q_far : Nat} {q_books : Nat} {q_told : Nat} {q_ring : Nat} {q_woods : Nat} {q_ends : Nat} {q_wood : Nat} {q_sheets : Nat} {q_marsh : Nat} {q_oldest : Nat} {q_youngest : Nat} {q_knowns : Nat} {q_known : Nat} {q_weight : Nat} {q_chance : Nat} {q_digs : Nat} {q_draft : Nat} {q_isKept : Nat} {s_trace : Int64} {s_earliest : Int32} {s_latest : Int32} {s_firstYear : Int32} {s_rings : Int32} {s_text : Nat → Int32} {o_r : Int32} {o_typed : Int32} {o_months : Nat → Int32} {o_years : Nat → Int32} : ∀ (x3 : Int32) (z0 : Int32) (s_typed : Int32) (s_months : Nat → Int32) (s_years : Nat → Int32), f_X12_calendar_307 s_text x3 z0 s_typed s_months s_years = some (o_r, o_typed, o_months, o_years) → ∀ (H : Heap) (locs : List Loc), va_P D vwCl (w_X12_calendar a0 q_text q_months q_years q_depths q_tune q_far q_books q_told q_ring q_woods q_ends q_wood q_sheets q_marsh q_oldest q_youngest q_knowns q_known q_weight q_chance q_digs q_draft q_isKept cA s_trace s_typed s_earliest s_latest s_firstYear s_rings s_text s_months s_years) H → va_D A (w_X12_calendar a0 q_text q_months q_years q_depths q_tune q_far q_books q_told q_ring q_woods q_ends q_wood q_sheets q_marsh q_oldest q_youngest q_knowns q_known q_weight q_chance q_digs q_draft q_isKept cA s_trace s_typed s_earliest s_latest s_firstYear s_rings s_text s_months s_years) → va_S A s.heap H locs → ∀ ls : Array Slot, lv_has ls 10 [(0, .ref a0), (3, .int x3)] → W p l e rm_X12_calendar s m args below meth c H locs 0 0 (MQ below (CQ D (some (.int o_r)) (w_X12_calendar a0 q_text q_months q_years q_depths q_tune q_far q_books q_told q_ring q_woods q_ends q_wood q_sheets q_marsh q_oldest q_youngest q_knowns q_known q_weight q_chance q_digs q_draft q_isKept cA s_trace o_typed s_earliest s_latest s_firstYear s_rings s_text o_months o_years) A) args s 0 0 A) (F0 m 307 ls [.int z0]) := by
  obtain ⟨hx, hb, hml, hown, hts, hr, hlocks, hX⟩ := C0
  have hK := hX.1
  have hN := hX.2
  intro x3 z0 s_typed s_months s_years hf H locs hP hD hS ls hl
  unfold f_X12_calendar_307 at hf
  refine lv_istore_n (lv' := [(2, .int z0), (0, .ref a0), (3, .int x3)]) hx hb dX12_calendar_307 rfl hl (by decide) rfl (fun ls hl => ?_)
  refine lv_iload_n hx hb dX12_calendar_308 rfl (lv_at hl 0 rfl) ?_
  refine lv_bipush (v := (-9 : Int32)) hx hb dX12_calendar_309 (by decide) ?_
  refine lv_icmp_eq (tgt := 319) hx hb dX12_calendar_311 (by decide) (fun c_1 => ?_) (fun c_1 => ?_)
  · have hf := pbr_t c_1 hf
    refine lv_aload_n hx hb dX12_calendar_319 rfl (lv_at hl 1 rfl) ?_
    refine va_get (D := D) (ci := 12) (v := .ref q_years) (C := RX12) (T := TX12) (N := 29) hx hb hts hn_X12_calendar_X12 hown hK hP 0 rfl rfl 10 (by decide) (hts _ hw_X12_calendar_f29) (fun _ h9 => h9) rfl dX12_calendar_320 ?_
    refine lv_iconst (v := (0 : Int32)) hx hb dX12_calendar_323 (by decide) ?_
    refine lv_iload_n hx hb dX12_calendar_324 rfl (lv_at hl 2 rfl) ?_
    refine va_iast hx hb hK hP hD hS 3 1 rfl rfl (show pin (0 : Int32) 2 by decide +kernel) dX12_calendar_325 (fun H locs hP hD hS => ?_)
    obtain ⟨f_2, ef_2⟩ : ∃ z : Nat → Int32, z = upd s_years (0 : Int32).toNatClampNeg x3 := ⟨_, rfl⟩
    have hf := plt_e ef_2 hf
    have hP : va_P D vwCl (w_X12_calendar a0 q_text q_months q_years q_depths q_tune q_far q_books q_told q_ring q_woods q_ends q_wood q_sheets q_marsh q_oldest q_youngest q_knowns q_known q_weight q_chance q_digs q_draft q_isKept cA s_trace s_typed s_earliest s_latest s_firstYear s_rings s_text s_months f_2) H := by rw [ef_2]; exact hP
    have hD : va_D A (w_X12_calendar a0 q_text q_months q_years q_depths q_tune q_far q_books q_told q_ring q_woods q_ends q_wood q_sheets q_marsh q_oldest q_youngest q_knowns q_known q_weight q_chance q_digs q_draft q_isKept cA s_trace s_typed s_earliest s_latest s_firstYear s_rings s_text s_months f_2) := by rw [ef_2]; exact hD
    refine lv_iconst (v := (0 : Int32)) hx hb dX12_calendar_326 (by decide) ?_
    refine lv_istore (lv' := [(5, .int (0 : Int32)), (2, .int z0), (0, .ref a0), (3, .int x3)]) hx hb dX12_calendar_327 hl (by decide) rfl (fun ls hl => ?_)
    exact k_X12_calendar_329 ⟨hx, hb, hml, hown, hts, hr, hlocks, hX⟩ hA FU x3 (0 : Int32) s_typed s_months f_2 hf _ _ hP hD hS ls (lv_sub hl [2, 3, 0] rfl)
  have hf := pbr_f c_1 hf
  refine lv_bipush (v := (-10 : Int32)) hx hb dX12_calendar_314 (by decide) ?_
  refine lv_iload_n hx hb dX12_calendar_316 rfl (lv_at hl 0 rfl) ?_
  refine lv_isub hx hb dX12_calendar_317 ?_
  obtain ⟨rfl, rfl, rfl, rfl⟩ := pe4 hf
  exact m_iret hx hb hr hlocks hP hS dX12_calendar_318

def f_X12_calendar_306 (s_text : Nat → Int32) (x2 : Int32) (x3 : Int32) (s_typed : Int32) (s_months : Nat → Int32) (s_years : Nat → Int32) : Option ((Int32) × (Int32) × (Nat → Int32) × (Nat → Int32)) :=
  f_X12_calendar_307 s_text x3 x2 s_typed s_months s_years

set_option maxRecDepth 100000 in
set_option maxHeartbeats 4000000 in
theorem k_X12_calendar_306 {p : Program} {l : Launch} {e : Env} {s : State} {m : MethodId} {args : Array Value} {below : List Frame} {meth : Method} {c : Code} {A : Nat → Prop} {D : va_G} {cA : Nat → ClassId} (C0 : MX p s m args meth c cX12_calendar 10 wsX12_calendar RX12 (some .int) D cA) (hA : ∀ q, s.heap.size ≤ q → A q) {a0 : Nat} {q_text : Nat} {q_months : Nat} {q_years : Nat} {q_depths : Nat} {q_tune : Nat} {q_far : Nat} {q_books : Nat} {q_told : Nat} {q_ring : Nat} {q_woods : Nat} {q_ends : Nat} {q_wood : Nat} {q_sheets : Nat} {q_marsh : Nat} {q_oldest : Nat} {q_youngest : Nat} {q_knowns : Nat} {q_known : Nat} {q_weight : Nat} {q_chance : Nat} {q_digs : Nat} {q_draft : Nat} {q_isKept : Nat} {s_trace : Int64} {s_earliest : Int32} {s_latest : Int32} {s_firstYear : Int32} {s_rings : Int32} {s_text : Nat → Int32} {o_r : Int32} {o_typed : Int32} {o_months : Nat → Int32} {o_years : Nat → Int32} : ∀ (x2 : Int32) (x3 : Int32) (s_typed : Int32) (s_months : Nat → Int32) (s_years : Nat → Int32), f_X12_calendar_306 s_text x2 x3 s_typed s_months s_years = some (o_r, o_typed, o_months, o_years) → ∀ (H : Heap) (locs : List Loc), va_P D vwCl (w_X12_calendar a0 q_text q_months q_years q_depths q_tune q_far q_books q_told q_ring q_woods q_ends q_wood q_sheets q_marsh q_oldest q_youngest q_knowns q_known q_weight q_chance q_digs q_draft q_isKept cA s_trace s_typed s_earliest s_latest s_firstYear s_rings s_text s_months s_years) H → va_D A (w_X12_calendar a0 q_text q_months q_years q_depths q_tune q_far q_books q_told q_ring q_woods q_ends q_wood q_sheets q_marsh q_oldest q_youngest q_knowns q_known q_weight q_chance q_digs q_draft q_isKept cA s_trace s_typed s_earliest s_latest s_firstYear s_rings s_text s_months s_years) → va_S A s.heap H locs → ∀ ls : Array Slot, lv_has ls 10 [(0, .ref a0), (2, .int x2), (3, .int x3)] → W p l e rm_X12_calendar s m args below meth c H locs 0 0 (MQ below (CQ D (some (.int o_r)) (w_X12_calendar a0 q_text q_months q_years q_depths q_tune q_far q_books q_told q_ring q_woods q_ends q_wood q_sheets q_marsh q_oldest q_youngest q_knowns q_known q_weight q_chance q_digs q_draft q_isKept cA s_trace o_typed s_earliest s_latest s_firstYear s_rings s_text o_months o_years) A) args s 0 0 A) (F0 m 306 ls []) := by
  obtain ⟨hx, hb, hml, hown, hts, hr, hlocks, hX⟩ := C0
  have hK := hX.1
  have hN := hX.2
  intro x2 x3 s_typed s_months s_years hf H locs hP hD hS ls hl
  unfold f_X12_calendar_306 at hf
  refine lv_iload_n hx hb dX12_calendar_306 rfl (lv_at hl 1 rfl) ?_
  exact k_X12_calendar_307 ⟨hx, hb, hml, hown, hts, hr, hlocks, hX⟩ hA x3 x2 s_typed s_months s_years hf _ _ hP hD hS ls (lv_sub hl [0, 2] rfl)

def f_X12_calendar_288 (s_text : Nat → Int32) (x2 : Int32) (x3 : Int32) (x4 : Int32) (s_typed : Int32) (s_months : Nat → Int32) (s_years : Nat → Int32) : Option ((Int32) × (Int32) × (Nat → Int32) × (Nat → Int32)) :=
  pbr (x2 = (-9 : Int32))
    (pbr (x4 ≤ 0)
      (f_X12_calendar_306 s_text x2 x3 s_typed s_months s_years)
      (f_X12_calendar_307 s_text x3 s_typed s_typed s_months s_years))
    (f_X12_calendar_306 s_text x2 x3 s_typed s_months s_years)

set_option maxRecDepth 100000 in
set_option maxHeartbeats 4000000 in
theorem k_X12_calendar_288 {p : Program} {l : Launch} {e : Env} {s : State} {m : MethodId} {args : Array Value} {below : List Frame} {meth : Method} {c : Code} {A : Nat → Prop} {D : va_G} {cA : Nat → ClassId} (C0 : MX p s m args meth c cX12_calendar 10 wsX12_calendar RX12 (some .int) D cA) (hA : ∀ q, s.heap.size ≤ q → A q) {a0 : Nat} {q_text : Nat} {q_months : Nat} {q_years : Nat} {q_depths : Nat} {q_tune : Nat} {q_far : Nat} {q_books : Nat} {q_told : Nat} {q_ring : Nat} {q_woods : Nat} {q_ends : Nat} {q_wood : Nat} {q_sheets : Nat} {q_marsh : Nat} {q_oldest : Nat} {q_youngest : Nat} {q_knowns : Nat} {q_known : Nat} {q_weight : Nat} {q_chance : Nat} {q_digs : Nat} {q_draft : Nat} {q_isKept : Nat} {s_trace : Int64} {s_earliest : Int32} {s_latest : Int32} {s_firstYear : Int32} {s_rings : Int32} {s_text : Nat → Int32} {o_r : Int32} {o_typed : Int32} {o_months : Nat → Int32} {o_years : Nat → Int32} : ∀ (x2 : Int32) (x3 : Int32) (x4 : Int32) (s_typed : Int32) (s_months : Nat → Int32) (s_years : Nat → Int32), f_X12_calendar_288 s_text x2 x3 x4 s_typed s_months s_years = some (o_r, o_typed, o_months, o_years) → ∀ (H : Heap) (locs : List Loc), va_P D vwCl (w_X12_calendar a0 q_text q_months q_years q_depths q_tune q_far q_books q_told q_ring q_woods q_ends q_wood q_sheets q_marsh q_oldest q_youngest q_knowns q_known q_weight q_chance q_digs q_draft q_isKept cA s_trace s_typed s_earliest s_latest s_firstYear s_rings s_text s_months s_years) H → va_D A (w_X12_calendar a0 q_text q_months q_years q_depths q_tune q_far q_books q_told q_ring q_woods q_ends q_wood q_sheets q_marsh q_oldest q_youngest q_knowns q_known q_weight q_chance q_digs q_draft q_isKept cA s_trace s_typed s_earliest s_latest s_firstYear s_rings s_text s_months s_years) → va_S A s.heap H locs → ∀ ls : Array Slot, lv_has ls 10 [(0, .ref a0), (2, .int x2), (3, .int x3), (4, .int x4)] → W p l e rm_X12_calendar s m args below meth c H locs 0 0 (MQ below (CQ D (some (.int o_r)) (w_X12_calendar a0 q_text q_months q_years q_depths q_tune q_far q_books q_told q_ring q_woods q_ends q_wood q_sheets q_marsh q_oldest q_youngest q_knowns q_known q_weight q_chance q_digs q_draft q_isKept cA s_trace o_typed s_earliest s_latest s_firstYear s_rings s_text o_months o_years) A) args s 0 0 A) (F0 m 288 ls []) := by
  obtain ⟨hx, hb, hml, hown, hts, hr, hlocks, hX⟩ := C0
  have hK := hX.1
  have hN := hX.2
  intro x2 x3 x4 s_typed s_months s_years hf H locs hP hD hS ls hl
  unfold f_X12_calendar_288 at hf
  refine lv_iload_n hx hb dX12_calendar_288 rfl (lv_at hl 1 rfl) ?_
  refine lv_bipush (v := (-9 : Int32)) hx hb dX12_calendar_289 (by decide) ?_
  refine lv_icmp_ne (tgt := 306) hx hb dX12_calendar_291 (by decide) (fun c_1 => ?_) (fun c_1 => ?_)
  · have hf := pbr_f c_1 hf
    exact k_X12_calendar_306 ⟨hx, hb, hml, hown, hts, hr, hlocks, hX⟩ hA x2 x3 s_typed s_months s_years hf _ _ hP hD hS ls (lv_sub hl [0, 1, 2] rfl)
  have hf := pbr_t c_1 hf
  refine lv_iload hx hb dX12_calendar_294 (lv_at hl 3 rfl) ?_
  refine lv_if_le (tgt := 306) hx hb dX12_calendar_296 (by decide) (fun c_2 => ?_) (fun c_2 => ?_)
  · have hf := pbr_t c_2 hf
    exact k_X12_calendar_306 ⟨hx, hb, hml, hown, hts, hr, hlocks, hX⟩ hA x2 x3 s_typed s_months s_years hf _ _ hP hD hS ls (lv_sub hl [0, 1, 2] rfl)
  have hf := pbr_f c_2 hf
  refine lv_aload_n hx hb dX12_calendar_299 rfl (lv_at hl 0 rfl) ?_
  refine va_get (D := D) (ci := 12) (v := .int s_typed) (C := RX12) (T := TX12) (N := 29) hx hb hts hn_X12_calendar_X12 hown hK hP 0 rfl rfl 2 (by decide) (hts _ hw_X12_calendar_f90) (fun _ h9 => h9) rfl dX12_calendar_300 ?_
  refine lv_goto (tgt := 307) hx hb dX12_calendar_303 (by decide) ?_
  exact k_X12_calendar_307 ⟨hx, hb, hml, hown, hts, hr, hlocks, hX⟩ hA x3 s_typed s_typed s_months s_years hf _ _ hP hD hS ls (lv_sub hl [0, 2] rfl)

def f_X12_calendar_221 (r10 : (Int32) → (Int32) → (Int32) → (Int32) → (Int32) → (Nat → Int32) → (Nat → Int32) → Option ((Int32) × (Int32) × (Nat → Int32) × (Nat → Int32))) (s_text : Nat → Int32) (x1 : Int32) (x2 : Int32) (x3 : Int32) (x4 : Int32) (x5 : Int32) (x6 : Int32) (x7 : Int32) (z0 : Int32) (s_typed : Int32) (s_months : Nat → Int32) (s_years : Nat → Int32) : Option ((Int32) × (Int32) × (Nat → Int32) × (Nat → Int32)) :=
  pbr (z0 = 0)
    (r10 x1 x6 x3 x4 s_typed s_months s_years)
    (pcl (f_X12_isDigit x5) (fun r_2 => (
    pbr (r_2 = 0)
      (pgd (pin ((112 : Int32) + ((14 : Int32) * x3)) 224) (
      plt (upd s_months ((112 : Int32) + ((14 : Int32) * x3)).toNatClampNeg x4 : Nat → Int32) (fun f_6 => (
      plt (x3 + (1 : Int32) : Int32) (fun x3_7 => (
      r10 x1 x2 x3_7 (0 : Int32) s_typed f_6 s_years))))))
      (plt (x4 + (1 : Int32) : Int32) (fun x4_8 => (
      pgd (pin (((112 : Int32) + ((14 : Int32) * x3)) + x4_8) 224) (
      plt (upd s_months (((112 : Int32) + ((14 : Int32) * x3)) + x4_8).toNatClampNeg x7 : Nat → Int32) (fun f_10 => (
      r10 x1 x2 x3 x4_8 s_typed f_10 s_years)))))))))

set_option maxRecDepth 100000 in
set_option maxHeartbeats 4000000 in
theorem k_X12_calendar_221 {p : Program} {l : Launch} {e : Env} {s : State} {m : MethodId} {args : Array Value} {below : List Frame} {meth : Method} {c : Code} {A : Nat → Prop} {D : va_G} {cA : Nat → ClassId} (C0 : MX p s m args meth c cX12_calendar 10 wsX12_calendar RX12 (some .int) D cA) (hA : ∀ q, s.heap.size ≤ q → A q) {a0 : Nat} {q_text : Nat} {q_months : Nat} {q_years : Nat} {q_depths : Nat} {q_tune : Nat} {q_far : Nat} {q_books : Nat} {q_told : Nat} {q_ring : Nat} {q_woods : Nat} {q_ends : Nat} {q_wood : Nat} {q_sheets : Nat} {q_marsh : Nat} {q_oldest : Nat} {q_youngest : Nat} {q_knowns : Nat} {q_known : Nat} {q_weight : Nat} {q_chance : Nat} {q_digs : Nat} {q_draft : Nat} {q_isKept : Nat} {s_trace : Int64} {s_earliest : Int32} {s_latest : Int32} {s_firstYear : Int32} {s_rings : Int32} {s_text : Nat → Int32} {o_r : Int32} {o_typed : Int32} {o_months : Nat → Int32} {o_years : Nat → Int32} {r10 : (Int32) → (Int32) → (Int32) → (Int32) → (Int32) → (Nat → Int32) → (Nat → Int32) → Option ((Int32) × (Int32) × (Nat → Int32) × (Nat → Int32))} (hr10 : ∀ (x1 : Int32) (x2 : Int32) (x3 : Int32) (x4 : Int32) (s_typed : Int32) (s_months : Nat → Int32) (s_years : Nat → Int32), r10 x1 x2 x3 x4 s_typed s_months s_years = some (o_r, o_typed, o_months, o_years) → ∀ (H : Heap) (locs : List Loc), va_P D vwCl (w_X12_calendar a0 q_text q_months q_years q_depths q_tune q_far q_books q_told q_ring q_woods q_ends q_wood q_sheets q_marsh q_oldest q_youngest q_knowns q_known q_weight q_chance q_digs q_draft q_isKept cA s_trace s_typed s_earliest s_latest s_firstYear s_rings s_text s_months s_years) H → va_D A (w_X12_calendar a0 q_text q_months q_years q_depths q_tune q_far q_books q_told q_ring q_woods q_ends q_wood q_sheets q_marsh q_oldest q_youngest q_knowns q_known q_weight q_chance q_digs q_draft q_isKept cA s_trace s_typed s_earliest s_latest s_firstYear s_rings s_text s_months s_years) → va_S A s.heap H locs → ∀ ls : Array Slot, lv_has ls 10 [(0, .ref a0), (1, .int x1), (2, .int x2), (3, .int x3), (4, .int x4)] → W p l e rm_X12_calendar s m args below meth c H locs 0 0 (MQ below (CQ D (some (.int o_r)) (w_X12_calendar a0 q_text q_months q_years q_depths q_tune q_far q_books q_told q_ring q_woods q_ends q_wood q_sheets q_marsh q_oldest q_youngest q_knowns q_known q_weight q_chance q_digs q_draft q_isKept cA s_trace o_typed s_earliest s_latest s_firstYear s_rings s_text o_months o_years) A) args s 0 0 A) (F0 m 10 ls [])) : ∀ (x1 : Int32) (x2 : Int32) (x3 : Int32) (x4 : Int32) (x5 : Int32) (x6 : Int32) (x7 : Int32) (z0 : Int32) (s_typed : Int32) (s_months : Nat → Int32) (s_years : Nat → Int32), f_X12_calendar_221 r10 s_text x1 x2 x3 x4 x5 x6 x7 z0 s_typed s_months s_years = some (o_r, o_typed, o_months, o_years) → ∀ (H : Heap) (locs : List Loc), va_P D vwCl (w_X12_calendar a0 q_text q_months q_years q_depths q_tune q_far q_books q_told q_ring q_woods q_ends q_wood q_sheets q_marsh q_oldest q_youngest q_knowns q_known q_weight q_chance q_digs q_draft q_isKept cA s_trace s_typed s_earliest s_latest s_firstYear s_rings s_text s_months s_years) H → va_D A (w_X12_calendar a0 q_text q_months q_years q_depths q_tune q_far q_books q_told q_ring q_woods q_ends q_wood q_sheets q_marsh q_oldest q_youngest q_knowns q_known q_weight q_chance q_digs q_draft q_isKept cA s_trace s_typed s_earliest s_latest s_firstYear s_rings s_text s_months s_years) → va_S A s.heap H locs → ∀ ls : Array Slot, lv_has ls 10 [(0, .ref a0), (1, .int x1), (2, .int x2), (3, .int x3), (4, .int x4), (5, .int x5), (6, .int x6), (7, .int x7)] → W p l e rm_X12_calendar s m args below meth c H locs 0 0 (MQ below (CQ D (some (.int o_r)) (w_X12_calendar a0 q_text q_months q_years q_depths q_tune q_far q_books q_told q_ring q_woods q_ends q_wood q_sheets q_marsh q_oldest q_youngest q_knowns q_known q_weight q_chance q_digs q_draft q_isKept cA s_trace o_typed s_earliest s_latest s_firstYear s_rings s_text o_months o_years) A) args s 0 0 A) (F0 m 221 ls [.int z0]) := by
  obtain ⟨hx, hb, hml, hown, hts, hr, hlocks, hX⟩ := C0
  have hK := hX.1
  have hN := hX.2
  intro x1 x2 x3 x4 x5 x6 x7 z0 s_typed s_months s_years hf H locs hP hD hS ls hl
  unfold f_X12_calendar_221 at hf
  refine lv_istore (lv' := [(9, .int z0), (0, .ref a0), (1, .int x1), (2, .int x2), (3, .int x3), (4, .int x4), (5, .int x5), (6, .int x6), (7, .int x7)]) hx hb dX12_calendar_221 hl (by decide) rfl (fun ls hl => ?_)
  refine lv_iload hx hb dX12_calendar_223 (lv_at hl 0 rfl) ?_
  refine lv_if_ne (tgt := 234) hx hb dX12_calendar_225 (by decide) (fun c_1 => ?_) (fun c_1 => ?_)
  · have hf := pbr_f c_1 hf
    refine lv_iload hx hb dX12_calendar_234 (lv_at hl 6 rfl) ?_
    obtain ⟨r_2, hc_3, hf⟩ := pcl_e hf
    refine m_callS2 (As := [.int x5]) (rest := []) ⟨hx, hb, hml, hown, hts⟩ hX (ct_X12_isDigit l D cA x5 r_2 hc_3) (va_cwS 1 hts gX12_calendar_X12_isDigit rfl rfl rfl (by decide +kernel) ⟨Nat.le_of_ble_eq_true rfl, Nat.le_of_ble_eq_true rfl⟩) hP hD hS hA [] [0, 1, 2, 3] 4 (by decide) rfl rfl (WS' := (w_X12_calendar a0 q_text q_months q_years q_depths q_tune q_far q_books q_told q_ring q_woods q_ends q_wood q_sheets q_marsh q_oldest q_youngest q_knowns q_known q_weight q_chance q_digs q_draft q_isKept cA s_trace s_typed s_earliest s_latest s_firstYear s_rings s_text s_months s_years)) (WR := [(a0, .inr (12, [.long s_trace, .ref q_text, .int s_typed, .ref q_depths, .ref q_tune, .ref q_far, .ref q_books, .ref q_told, .int s_earliest, .int s_latest, .ref q_years, .ref q_months, .int s_firstYear, .int s_rings, .ref q_ring, .ref q_woods, .ref q_ends, .ref q_wood, .ref q_sheets, .ref q_marsh, .ref q_oldest, .ref q_youngest, .ref q_knowns, .ref q_known, .ref q_weight, .ref q_chance, .ref q_digs, .ref q_draft, .ref q_isKept])), (q_text, .inl (cA 0, 400, .inl s_text)), (q_months, .inl (cA 1, 224, .inl s_months)), (q_years, .inl (cA 1, 2, .inl s_years))]) rfl rfl rfl rfl (by decide) (by decide) rfl hl.1 rfl (st' := [.int r_2]) rfl (Nat.le_of_ble_eq_true rfl) ⟨Nat.zero_le _, Nat.zero_le _⟩ dX12_calendar_236 (fun H locs hP hD hS => ?_)
    refine lv_if_eq (tgt := 265) hx hb dX12_calendar_239 (by decide) (fun c_4 => ?_) (fun c_4 => ?_)
    · have hf := pbr_t c_4 hf
      refine lv_aload_n hx hb dX12_calendar_265 rfl (lv_at hl 1 rfl) ?_
      refine va_get (D := D) (ci := 12) (v := .ref q_months) (C := RX12) (T := TX12) (N := 29) hx hb hts hn_X12_calendar_X12 hown hK hP 0 rfl rfl 11 (by decide) (hts _ hw_X12_calendar_f32) (fun _ h9 => h9) rfl dX12_calendar_266 ?_
      refine lv_bipush (v := (112 : Int32)) hx hb dX12_calendar_269 (by decide) ?_
      refine lv_bipush (v := (14 : Int32)) hx hb dX12_calendar_271 (by decide) ?_
      refine lv_iload_n hx hb dX12_calendar_273 rfl (lv_at hl 4 rfl) ?_
      refine lv_imul hx hb dX12_calendar_274 ?_
      refine lv_iadd hx hb dX12_calendar_275 ?_
      refine lv_iload hx hb dX12_calendar_276 (lv_at hl 5 rfl) ?_
      obtain ⟨g_5, hf⟩ := pgd_e hf
      refine va_iast hx hb hK hP hD hS 2 1 rfl rfl g_5 dX12_calendar_278 (fun H locs hP hD hS => ?_)
      obtain ⟨f_6, ef_6⟩ : ∃ z : Nat → Int32, z = upd s_months ((112 : Int32) + ((14 : Int32) * x3)).toNatClampNeg x4 := ⟨_, rfl⟩
      have hf := plt_e ef_6 hf
      have hP : va_P D vwCl (w_X12_calendar a0 q_text q_months q_years q_depths q_tune q_far q_books q_told q_ring q_woods q_ends q_wood q_sheets q_marsh q_oldest q_youngest q_knowns q_known q_weight q_chance q_digs q_draft q_isKept cA s_trace s_typed s_earliest s_latest s_firstYear s_rings s_text f_6 s_years) H := by rw [ef_6]; exact hP
      have hD : va_D A (w_X12_calendar a0 q_text q_months q_years q_depths q_tune q_far q_books q_told q_ring q_woods q_ends q_wood q_sheets q_marsh q_oldest q_youngest q_knowns q_known q_weight q_chance q_digs q_draft q_isKept cA s_trace s_typed s_earliest s_latest s_firstYear s_rings s_text f_6 s_years) := by rw [ef_6]; exact hD
      refine lv_iconst (v := (0 : Int32)) hx hb dX12_calendar_279 (by decide) ?_
      refine lv_istore (lv' := [(4, .int (0 : Int32)), (9, .int z0), (0, .ref a0), (1, .int x1), (2, .int x2), (3, .int x3), (5, .int x5), (6, .int x6), (7, .int x7)]) hx hb dX12_calendar_280 hl (by decide) rfl (fun ls hl => ?_)
      obtain ⟨x3_7, ex3_7⟩ : ∃ z : Int32, z = x3 + (1 : Int32) := ⟨_, rfl⟩
      have hf := plt_e ex3_7 hf
      refine lv_iinc (v := x3_7) (lv' := [(3, .int x3_7), (4, .int (0 : Int32)), (9, .int z0), (0, .ref a0), (1, .int x1), (2, .int x2), (5, .int x5), (6, .int x6), (7, .int x7)]) hx hb dX12_calendar_282 hl (k := 5) rfl (by rw [ex3_7]; rfl) (by decide) rfl (fun ls hl => ?_)
      refine lv_goto (tgt := 10) hx hb dX12_calendar_285 (by decide) ?_
      exact hr10 x1 x2 x3_7 (0 : Int32) s_typed f_6 s_years hf _ _ hP hD hS ls (lv_sub hl [3, 4, 5, 0, 1] rfl)
    have hf := pbr_f c_4 hf
    obtain ⟨x4_8, ex4_8⟩ : ∃ z : Int32, z = x4 + (1 : Int32) := ⟨_, rfl⟩
    have hf := plt_e ex4_8 hf
    refine lv_iinc (v := x4_8) (lv' := [(4, .int x4_8), (9, .int z0), (0, .ref a0), (1, .int x1), (2, .int x2), (3, .int x3), (5, .int x5), (6, .int x6), (7, .int x7)]) hx hb dX12_calendar_242 hl (k := 5) rfl (by rw [ex4_8]; rfl) (by decide) rfl (fun ls hl => ?_)
    refine lv_aload_n hx hb dX12_calendar_245 rfl (lv_at hl 2 rfl) ?_
    refine va_get (D := D) (ci := 12) (v := .ref q_months) (C := RX12) (T := TX12) (N := 29) hx hb hts hn_X12_calendar_X12 hown hK hP 0 rfl rfl 11 (by decide) (hts _ hw_X12_calendar_f32) (fun _ h9 => h9) rfl dX12_calendar_246 ?_
    refine lv_bipush (v := (112 : Int32)) hx hb dX12_calendar_249 (by decide) ?_
    refine lv_bipush (v := (14 : Int32)) hx hb dX12_calendar_251 (by decide) ?_
    refine lv_iload_n hx hb dX12_calendar_253 rfl (lv_at hl 5 rfl) ?_
    refine lv_imul hx hb dX12_calendar_254 ?_
    refine lv_iadd hx hb dX12_calendar_255 ?_
    refine lv_iload hx hb dX12_calendar_256 (lv_at hl 0 rfl) ?_
    refine lv_iadd hx hb dX12_calendar_258 ?_
    refine lv_iload hx hb dX12_calendar_259 (lv_at hl 8 rfl) ?_
    obtain ⟨g_9, hf⟩ := pgd_e hf
    refine va_iast hx hb hK hP hD hS 2 1 rfl rfl g_9 dX12_calendar_261 (fun H locs hP hD hS => ?_)
    obtain ⟨f_10, ef_10⟩ : ∃ z : Nat → Int32, z = upd s_months (((112 : Int32) + ((14 : Int32) * x3)) + x4_8).toNatClampNeg x7 := ⟨_, rfl⟩
    have hf := plt_e ef_10 hf
    have hP : va_P D vwCl (w_X12_calendar a0 q_text q_months q_years q_depths q_tune q_far q_books q_told q_ring q_woods q_ends q_wood q_sheets q_marsh q_oldest q_youngest q_knowns q_known q_weight q_chance q_digs q_draft q_isKept cA s_trace s_typed s_earliest s_latest s_firstYear s_rings s_text f_10 s_years) H := by rw [ef_10]; exact hP
    have hD : va_D A (w_X12_calendar a0 q_text q_months q_years q_depths q_tune q_far q_books q_told q_ring q_woods q_ends q_wood q_sheets q_marsh q_oldest q_youngest q_knowns q_known q_weight q_chance q_digs q_draft q_isKept cA s_trace s_typed s_earliest s_latest s_firstYear s_rings s_text f_10 s_years) := by rw [ef_10]; exact hD
    refine lv_goto (tgt := 285) hx hb dX12_calendar_262 (by decide) ?_
    refine lv_goto (tgt := 10) hx hb dX12_calendar_285 (by decide) ?_
    exact hr10 x1 x2 x3 x4_8 s_typed f_10 s_years hf _ _ hP hD hS ls (lv_sub hl [2, 3, 4, 5, 0] rfl)
  have hf := pbr_t c_1 hf
  refine lv_iload hx hb dX12_calendar_228 (lv_at hl 7 rfl) ?_
  refine lv_istore_n (lv' := [(2, .int x6), (9, .int z0), (0, .ref a0), (1, .int x1), (3, .int x3), (4, .int x4), (5, .int x5), (6, .int x6), (7, .int x7)]) hx hb dX12_calendar_230 rfl hl (by decide) rfl (fun ls hl => ?_)
  refine lv_goto (tgt := 285) hx hb dX12_calendar_231 (by decide) ?_
  refine lv_goto (tgt := 10) hx hb dX12_calendar_285 (by decide) ?_
  exact hr10 x1 x6 x3 x4 s_typed s_months s_years hf _ _ hP hD hS ls (lv_sub hl [2, 3, 0, 4, 5] rfl)

def f_X12_calendar_220 (r10 : (Int32) → (Int32) → (Int32) → (Int32) → (Int32) → (Nat → Int32) → (Nat → Int32) → Option ((Int32) × (Int32) × (Nat → Int32) × (Nat → Int32))) (s_text : Nat → Int32) (x1 : Int32) (x2 : Int32) (x3 : Int32) (x4 : Int32) (x5 : Int32) (x6 : Int32) (x7 : Int32) (s_typed : Int32) (s_months : Nat → Int32) (s_years : Nat → Int32) : Option ((Int32) × (Int32) × (Nat → Int32) × (Nat → Int32)) :=
  f_X12_calendar_221 r10 s_text x1 x2 x3 x4 x5 x6 x7 (0 : Int32) s_typed s_months s_years

set_option maxRecDepth 100000 in
set_option maxHeartbeats 4000000 in
theorem k_X12_calendar_220 {p : Program} {l : Launch} {e : Env} {s : State} {m : MethodId} {args : Array Value} {below : List Frame} {meth : Method} {c : Code} {A : Nat → Prop} {D : va_G} {cA : Nat → ClassId} (C0 : MX p s m args meth c cX12_calendar 10 wsX12_calendar RX12 (some .int) D cA) (hA : ∀ q, s.heap.size ≤ q → A q) {a0 : Nat} {q_text : Nat} {q_months : Nat} {q_years : Nat} {q_depths : Nat} {q_tune : Nat} {q_far : Nat} {q_books : Nat} {q_told : Nat} {q_ring : Nat} {q_woods : Nat} {q_ends : Nat} {q_wood : Nat} {q_sheets : Nat} {q_marsh : Nat} {q_oldest : Nat} {q_youngest : Nat} {q_knowns : Nat} {q_known : Nat} {q_weight : Nat} {q_chance : Nat} {q_digs : Nat} {q_draft : Nat} {q_isKept : Nat} {s_trace : Int64} {s_earliest : Int32} {s_latest : Int32} {s_firstYear : Int32} {s_rings : Int32} {s_text : Nat → Int32} {o_r : Int32} {o_typed : Int32} {o_months : Nat → Int32} {o_years : Nat → Int32} {r10 : (Int32) → (Int32) → (Int32) → (Int32) → (Int32) → (Nat → Int32) → (Nat → Int32) → Option ((Int32) × (Int32) × (Nat → Int32) × (Nat → Int32))} (hr10 : ∀ (x1 : Int32) (x2 : Int32) (x3 : Int32) (x4 : Int32) (s_typed : Int32) (s_months : Nat → Int32) (s_years : Nat → Int32), r10 x1 x2 x3 x4 s_typed s_months s_years = some (o_r, o_typed, o_months, o_years) → ∀ (H : Heap) (locs : List Loc), va_P D vwCl (w_X12_calendar a0 q_text q_months q_years q_depths q_tune q_far q_books q_told q_ring q_woods q_ends q_wood q_sheets q_marsh q_oldest q_youngest q_knowns q_known q_weight q_chance q_digs q_draft q_isKept cA s_trace s_typed s_earliest s_latest s_firstYear s_rings s_text s_months s_years) H → va_D A (w_X12_calendar a0 q_text q_months q_years q_depths q_tune q_far q_books q_told q_ring q_woods q_ends q_wood q_sheets q_marsh q_oldest q_youngest q_knowns q_known q_weight q_chance q_digs q_draft q_isKept cA s_trace s_typed s_earliest s_latest s_firstYear s_rings s_text s_months s_years) → va_S A s.heap H locs → ∀ ls : Array Slot, lv_has ls 10 [(0, .ref a0), (1, .int x1), (2, .int x2), (3, .int x3), (4, .int x4)] → W p l e rm_X12_calendar s m args below meth c H locs 0 0 (MQ below (CQ D (some (.int o_r)) (w_X12_calendar a0 q_text q_months q_years q_depths q_tune q_far q_books q_told q_ring q_woods q_ends q_wood q_sheets q_marsh q_oldest q_youngest q_knowns q_known q_weight q_chance q_digs q_draft q_isKept cA s_trace o_typed s_earliest s_latest s_firstYear s_rings s_text o_months o_years) A) args s 0 0 A) (F0 m 10 ls [])) : ∀ (x1 : Int32) (x2 : Int32) (x3 : Int32) (x4 : Int32) (x5 : Int32) (x6 : Int32) (x7 : Int32) (s_typed : Int32) (s_months : Nat → Int32) (s_years : Nat → Int32), f_X12_calendar_220 r10 s_text x1 x2 x3 x4 x5 x6 x7 s_typed s_months s_years = some (o_r, o_typed, o_months, o_years) → ∀ (H : Heap) (locs : List Loc), va_P D vwCl (w_X12_calendar a0 q_text q_months q_years q_depths q_tune q_far q_books q_told q_ring q_woods q_ends q_wood q_sheets q_marsh q_oldest q_youngest q_knowns q_known q_weight q_chance q_digs q_draft q_isKept cA s_trace s_typed s_earliest s_latest s_firstYear s_rings s_text s_months s_years) H → va_D A (w_X12_calendar a0 q_text q_months q_years q_depths q_tune q_far q_books q_told q_ring q_woods q_ends q_wood q_sheets q_marsh q_oldest q_youngest q_knowns q_known q_weight q_chance q_digs q_draft q_isKept cA s_trace s_typed s_earliest s_latest s_firstYear s_rings s_text s_months s_years) → va_S A s.heap H locs → ∀ ls : Array Slot, lv_has ls 10 [(0, .ref a0), (1, .int x1), (2, .int x2), (3, .int x3), (4, .int x4), (5, .int x5), (6, .int x6), (7, .int x7)] → W p l e rm_X12_calendar s m args below meth c H locs 0 0 (MQ below (CQ D (some (.int o_r)) (w_X12_calendar a0 q_text q_months q_years q_depths q_tune q_far q_books q_told q_ring q_woods q_ends q_wood q_sheets q_marsh q_oldest q_youngest q_knowns q_known q_weight q_chance q_digs q_draft q_isKept cA s_trace o_typed s_earliest s_latest s_firstYear s_rings s_text o_months o_years) A) args s 0 0 A) (F0 m 220 ls []) := by
  obtain ⟨hx, hb, hml, hown, hts, hr, hlocks, hX⟩ := C0
  have hK := hX.1
  have hN := hX.2
  intro x1 x2 x3 x4 x5 x6 x7 s_typed s_months s_years hf H locs hP hD hS ls hl
  unfold f_X12_calendar_220 at hf
  refine lv_iconst (v := (0 : Int32)) hx hb dX12_calendar_220 (by decide) ?_
  exact k_X12_calendar_221 ⟨hx, hb, hml, hown, hts, hr, hlocks, hX⟩ hA hr10 x1 x2 x3 x4 x5 x6 x7 (0 : Int32) s_typed s_months s_years hf _ _ hP hD hS ls (lv_sub hl [0, 1, 2, 3, 4, 5, 6, 7] rfl)

def f_X12_calendar_192 (r10 : (Int32) → (Int32) → (Int32) → (Int32) → (Int32) → (Nat → Int32) → (Nat → Int32) → Option ((Int32) × (Int32) × (Nat → Int32) × (Nat → Int32))) (s_text : Nat → Int32) (x1 : Int32) (x2 : Int32) (x3 : Int32) (x4 : Int32) (x5 : Int32) (x6 : Int32) (x7 : Int32) (s_typed : Int32) (s_months : Nat → Int32) (s_years : Nat → Int32) : Option ((Int32) × (Int32) × (Nat → Int32) × (Nat → Int32)) :=
  f_X12_calendar_221 r10 s_text x1 x2 x3 x4 x5 x6 x7 (0 : Int32) s_typed s_months s_years

set_option maxRecDepth 100000 in
set_option maxHeartbeats 4000000 in
theorem k_X12_calendar_192 {p : Program} {l : Launch} {e : Env} {s : State} {m : MethodId} {args : Array Value} {below : List Frame} {meth : Method} {c : Code} {A : Nat → Prop} {D : va_G} {cA : Nat → ClassId} (C0 : MX p s m args meth c cX12_calendar 10 wsX12_calendar RX12 (some .int) D cA) (hA : ∀ q, s.heap.size ≤ q → A q) {a0 : Nat} {q_text : Nat} {q_months : Nat} {q_years : Nat} {q_depths : Nat} {q_tune : Nat} {q_far : Nat} {q_books : Nat} {q_told : Nat} {q_ring : Nat} {q_woods : Nat} {q_ends : Nat} {q_wood : Nat} {q_sheets : Nat} {q_marsh : Nat} {q_oldest : Nat} {q_youngest : Nat} {q_knowns : Nat} {q_known : Nat} {q_weight : Nat} {q_chance : Nat} {q_digs : Nat} {q_draft : Nat} {q_isKept : Nat} {s_trace : Int64} {s_earliest : Int32} {s_latest : Int32} {s_firstYear : Int32} {s_rings : Int32} {s_text : Nat → Int32} {o_r : Int32} {o_typed : Int32} {o_months : Nat → Int32} {o_years : Nat → Int32} {r10 : (Int32) → (Int32) → (Int32) → (Int32) → (Int32) → (Nat → Int32) → (Nat → Int32) → Option ((Int32) × (Int32) × (Nat → Int32) × (Nat → Int32))} (hr10 : ∀ (x1 : Int32) (x2 : Int32) (x3 : Int32) (x4 : Int32) (s_typed : Int32) (s_months : Nat → Int32) (s_years : Nat → Int32), r10 x1 x2 x3 x4 s_typed s_months s_years = some (o_r, o_typed, o_months, o_years) → ∀ (H : Heap) (locs : List Loc), va_P D vwCl (w_X12_calendar a0 q_text q_months q_years q_depths q_tune q_far q_books q_told q_ring q_woods q_ends q_wood q_sheets q_marsh q_oldest q_youngest q_knowns q_known q_weight q_chance q_digs q_draft q_isKept cA s_trace s_typed s_earliest s_latest s_firstYear s_rings s_text s_months s_years) H → va_D A (w_X12_calendar a0 q_text q_months q_years q_depths q_tune q_far q_books q_told q_ring q_woods q_ends q_wood q_sheets q_marsh q_oldest q_youngest q_knowns q_known q_weight q_chance q_digs q_draft q_isKept cA s_trace s_typed s_earliest s_latest s_firstYear s_rings s_text s_months s_years) → va_S A s.heap H locs → ∀ ls : Array Slot, lv_has ls 10 [(0, .ref a0), (1, .int x1), (2, .int x2), (3, .int x3), (4, .int x4)] → W p l e rm_X12_calendar s m args below meth c H locs 0 0 (MQ below (CQ D (some (.int o_r)) (w_X12_calendar a0 q_text q_months q_years q_depths q_tune q_far q_books q_told q_ring q_woods q_ends q_wood q_sheets q_marsh q_oldest q_youngest q_knowns q_known q_weight q_chance q_digs q_draft q_isKept cA s_trace o_typed s_earliest s_latest s_firstYear s_rings s_text o_months o_years) A) args s 0 0 A) (F0 m 10 ls [])) : ∀ (x1 : Int32) (x2 : Int32) (x3 : Int32) (x4 : Int32) (x5 : Int32) (x6 : Int32) (x7 : Int32) (s_typed : Int32) (s_months : Nat → Int32) (s_years : Nat → Int32), f_X12_calendar_192 r10 s_text x1 x2 x3 x4 x5 x6 x7 s_typed s_months s_years = some (o_r, o_typed, o_months, o_years) → ∀ (H : Heap) (locs : List Loc), va_P D vwCl (w_X12_calendar a0 q_text q_months q_years q_depths q_tune q_far q_books q_told q_ring q_woods q_ends q_wood q_sheets q_marsh q_oldest q_youngest q_knowns q_known q_weight q_chance q_digs q_draft q_isKept cA s_trace s_typed s_earliest s_latest s_firstYear s_rings s_text s_months s_years) H → va_D A (w_X12_calendar a0 q_text q_months q_years q_depths q_tune q_far q_books q_told q_ring q_woods q_ends q_wood q_sheets q_marsh q_oldest q_youngest q_knowns q_known q_weight q_chance q_digs q_draft q_isKept cA s_trace s_typed s_earliest s_latest s_firstYear s_rings s_text s_months s_years) → va_S A s.heap H locs → ∀ ls : Array Slot, lv_has ls 10 [(0, .ref a0), (1, .int x1), (2, .int x2), (3, .int x3), (4, .int x4), (5, .int x5), (6, .int x6), (7, .int x7)] → W p l e rm_X12_calendar s m args below meth c H locs 0 0 (MQ below (CQ D (some (.int o_r)) (w_X12_calendar a0 q_text q_months q_years q_depths q_tune q_far q_books q_told q_ring q_woods q_ends q_wood q_sheets q_marsh q_oldest q_youngest q_knowns q_known q_weight q_chance q_digs q_draft q_isKept cA s_trace o_typed s_earliest s_latest s_firstYear s_rings s_text o_months o_years) A) args s 0 0 A) (F0 m 192 ls []) := by
  obtain ⟨hx, hb, hml, hown, hts, hr, hlocks, hX⟩ := C0
  have hK := hX.1
  have hN := hX.2
  intro x1 x2 x3 x4 x5 x6 x7 s_typed s_months s_years hf H locs hP hD hS ls hl
  unfold f_X12_calendar_192 at hf
  refine lv_iconst (v := (0 : Int32)) hx hb dX12_calendar_192 (by decide) ?_
  refine lv_goto (tgt := 221) hx hb dX12_calendar_193 (by decide) ?_
  exact k_X12_calendar_221 ⟨hx, hb, hml, hown, hts, hr, hlocks, hX⟩ hA hr10 x1 x2 x3 x4 x5 x6 x7 (0 : Int32) s_typed s_months s_years hf _ _ hP hD hS ls (lv_sub hl [0, 1, 2, 3, 4, 5, 6, 7] rfl)

def f_X12_calendar_160 (r10 : (Int32) → (Int32) → (Int32) → (Int32) → (Int32) → (Nat → Int32) → (Nat → Int32) → Option ((Int32) × (Int32) × (Nat → Int32) × (Nat → Int32))) (s_text : Nat → Int32) (x1 : Int32) (x2 : Int32) (x3 : Int32) (x4 : Int32) (x5 : Int32) (x6 : Int32) (x7 : Int32) (z0 : Int32) (s_typed : Int32) (s_months : Nat → Int32) (s_years : Nat → Int32) : Option ((Int32) × (Int32) × (Nat → Int32) × (Nat → Int32)) :=
  pcl (f_X12_isDigit x5) (fun r_1 => (
  pbr (r_1 = 0)
    (pbr (x5 = (59 : Int32))
      (pbr ((8 : Int32) ≤ x3)
        (f_X12_calendar_220 r10 s_text x1 x2 x3 x4 x5 x6 x7 s_typed s_months s_years)
        (pbr (x4 < (12 : Int32))
          (f_X12_calendar_220 r10 s_text x1 x2 x3 x4 x5 x6 x7 s_typed s_months s_years)
          (f_X12_calendar_221 r10 s_text x1 x2 x3 x4 x5 x6 x7 (1 : Int32) s_typed s_months s_years)))
      (f_X12_calendar_220 r10 s_text x1 x2 x3 x4 x5 x6 x7 s_typed s_months s_years))
    (pbr (z0 = 0)
      (f_X12_calendar_192 r10 s_text x1 x2 x3 x4 x5 x6 x7 s_typed s_months s_years)
      (pbr ((8 : Int32) ≤ x3)
        (f_X12_calendar_192 r10 s_text x1 x2 x3 x4 x5 x6 x7 s_typed s_months s_years)
        (pbr ((13 : Int32) ≤ x4)
          (f_X12_calendar_192 r10 s_text x1 x2 x3 x4 x5 x6 x7 s_typed s_months s_years)
          (f_X12_calendar_221 r10 s_text x1 x2 x3 x4 x5 x6 x7 (1 : Int32) s_typed s_months s_years))))))

set_option maxRecDepth 100000 in
set_option maxHeartbeats 4000000 in
theorem k_X12_calendar_160 {p : Program} {l : Launch} {e : Env} {s : State} {m : MethodId} {args : Array Value} {below : List Frame} {meth : Method} {c : Code} {A : Nat → Prop} {D : va_G} {cA : Nat → ClassId} (C0 : MX p s m args meth c cX12_calendar 10 wsX12_calendar RX12 (some .int) D cA) (hA : ∀ q, s.heap.size ≤ q → A q) {a0 : Nat} {q_text : Nat} {q_months : Nat} {q_years : Nat} {q_depths : Nat} {q_tune : Nat} {q_far : Nat} {q_books : Nat} {q_told : Nat} {q_ring : Nat} {q_woods : Nat} {q_ends : Nat} {q_wood : Nat} {q_sheets : Nat} {q_marsh : Nat} {q_oldest : Nat} {q_youngest : Nat} {q_knowns : Nat} {q_known : Nat} {q_weight : Nat} {q_chance : Nat} {q_digs : Nat} {q_draft : Nat} {q_isKept : Nat} {s_trace : Int64} {s_earliest : Int32} {s_latest : Int32} {s_firstYear : Int32} {s_rings : Int32} {s_text : Nat → Int32} {o_r : Int32} {o_typed : Int32} {o_months : Nat → Int32} {o_years : Nat → Int32} {r10 : (Int32) → (Int32) → (Int32) → (Int32) → (Int32) → (Nat → Int32) → (Nat → Int32) → Option ((Int32) × (Int32) × (Nat → Int32) × (Nat → Int32))} (hr10 : ∀ (x1 : Int32) (x2 : Int32) (x3 : Int32) (x4 : Int32) (s_typed : Int32) (s_months : Nat → Int32) (s_years : Nat → Int32), r10 x1 x2 x3 x4 s_typed s_months s_years = some (o_r, o_typed, o_months, o_years) → ∀ (H : Heap) (locs : List Loc), va_P D vwCl (w_X12_calendar a0 q_text q_months q_years q_depths q_tune q_far q_books q_told q_ring q_woods q_ends q_wood q_sheets q_marsh q_oldest q_youngest q_knowns q_known q_weight q_chance q_digs q_draft q_isKept cA s_trace s_typed s_earliest s_latest s_firstYear s_rings s_text s_months s_years) H → va_D A (w_X12_calendar a0 q_text q_months q_years q_depths q_tune q_far q_books q_told q_ring q_woods q_ends q_wood q_sheets q_marsh q_oldest q_youngest q_knowns q_known q_weight q_chance q_digs q_draft q_isKept cA s_trace s_typed s_earliest s_latest s_firstYear s_rings s_text s_months s_years) → va_S A s.heap H locs → ∀ ls : Array Slot, lv_has ls 10 [(0, .ref a0), (1, .int x1), (2, .int x2), (3, .int x3), (4, .int x4)] → W p l e rm_X12_calendar s m args below meth c H locs 0 0 (MQ below (CQ D (some (.int o_r)) (w_X12_calendar a0 q_text q_months q_years q_depths q_tune q_far q_books q_told q_ring q_woods q_ends q_wood q_sheets q_marsh q_oldest q_youngest q_knowns q_known q_weight q_chance q_digs q_draft q_isKept cA s_trace o_typed s_earliest s_latest s_firstYear s_rings s_text o_months o_years) A) args s 0 0 A) (F0 m 10 ls [])) : ∀ (x1 : Int32) (x2 : Int32) (x3 : Int32) (x4 : Int32) (x5 : Int32) (x6 : Int32) (x7 : Int32) (z0 : Int32) (s_typed : Int32) (s_months : Nat → Int32) (s_years : Nat → Int32), f_X12_calendar_160 r10 s_text x1 x2 x3 x4 x5 x6 x7 z0 s_typed s_months s_years = some (o_r, o_typed, o_months, o_years) → ∀ (H : Heap) (locs : List Loc), va_P D vwCl (w_X12_calendar a0 q_text q_months q_years q_depths q_tune q_far q_books q_told q_ring q_woods q_ends q_wood q_sheets q_marsh q_oldest q_youngest q_knowns q_known q_weight q_chance q_digs q_draft q_isKept cA s_trace s_typed s_earliest s_latest s_firstYear s_rings s_text s_months s_years) H → va_D A (w_X12_calendar a0 q_text q_months q_years q_depths q_tune q_far q_books q_told q_ring q_woods q_ends q_wood q_sheets q_marsh q_oldest q_youngest q_knowns q_known q_weight q_chance q_digs q_draft q_isKept cA s_trace s_typed s_earliest s_latest s_firstYear s_rings s_text s_months s_years) → va_S A s.heap H locs → ∀ ls : Array Slot, lv_has ls 10 [(0, .ref a0), (1, .int x1), (2, .int x2), (3, .int x3), (4, .int x4), (5, .int x5), (6, .int x6), (7, .int x7)] → W p l e rm_X12_calendar s m args below meth c H locs 0 0 (MQ below (CQ D (some (.int o_r)) (w_X12_calendar a0 q_text q_months q_years q_depths q_tune q_far q_books q_told q_ring q_woods q_ends q_wood q_sheets q_marsh q_oldest q_youngest q_knowns q_known q_weight q_chance q_digs q_draft q_isKept cA s_trace o_typed s_earliest s_latest s_firstYear s_rings s_text o_months o_years) A) args s 0 0 A) (F0 m 160 ls [.int z0]) := by
  obtain ⟨hx, hb, hml, hown, hts, hr, hlocks, hX⟩ := C0
  have hK := hX.1
  have hN := hX.2
  intro x1 x2 x3 x4 x5 x6 x7 z0 s_typed s_months s_years hf H locs hP hD hS ls hl
  unfold f_X12_calendar_160 at hf
  refine lv_istore (lv' := [(8, .int z0), (0, .ref a0), (1, .int x1), (2, .int x2), (3, .int x3), (4, .int x4), (5, .int x5), (6, .int x6), (7, .int x7)]) hx hb dX12_calendar_160 hl (by decide) rfl (fun ls hl => ?_)
  refine lv_iload hx hb dX12_calendar_162 (lv_at hl 6 rfl) ?_
  obtain ⟨r_1, hc_2, hf⟩ := pcl_e hf
  refine m_callS2 (As := [.int x5]) (rest := []) ⟨hx, hb, hml, hown, hts⟩ hX (ct_X12_isDigit l D cA x5 r_1 hc_2) (va_cwS 1 hts gX12_calendar_X12_isDigit rfl rfl rfl (by decide +kernel) ⟨Nat.le_of_ble_eq_true rfl, Nat.le_of_ble_eq_true rfl⟩) hP hD hS hA [] [0, 1, 2, 3] 4 (by decide) rfl rfl (WS' := (w_X12_calendar a0 q_text q_months q_years q_depths q_tune q_far q_books q_told q_ring q_woods q_ends q_wood q_sheets q_marsh q_oldest q_youngest q_knowns q_known q_weight q_chance q_digs q_draft q_isKept cA s_trace s_typed s_earliest s_latest s_firstYear s_rings s_text s_months s_years)) (WR := [(a0, .inr (12, [.long s_trace, .ref q_text, .int s_typed, .ref q_depths, .ref q_tune, .ref q_far, .ref q_books, .ref q_told, .int s_earliest, .int s_latest, .ref q_years, .ref q_months, .int s_firstYear, .int s_rings, .ref q_ring, .ref q_woods, .ref q_ends, .ref q_wood, .ref q_sheets, .ref q_marsh, .ref q_oldest, .ref q_youngest, .ref q_knowns, .ref q_known, .ref q_weight, .ref q_chance, .ref q_digs, .ref q_draft, .ref q_isKept])), (q_text, .inl (cA 0, 400, .inl s_text)), (q_months, .inl (cA 1, 224, .inl s_months)), (q_years, .inl (cA 1, 2, .inl s_years))]) rfl rfl rfl rfl (by decide) (by decide) rfl hl.1 rfl (st' := [.int r_1]) rfl (Nat.le_of_ble_eq_true rfl) ⟨Nat.zero_le _, Nat.zero_le _⟩ dX12_calendar_164 (fun H locs hP hD hS => ?_)
  refine lv_if_eq (tgt := 196) hx hb dX12_calendar_167 (by decide) (fun c_3 => ?_) (fun c_3 => ?_)
  · have hf := pbr_t c_3 hf
    refine lv_iload hx hb dX12_calendar_196 (lv_at hl 6 rfl) ?_
    refine lv_bipush (v := (59 : Int32)) hx hb dX12_calendar_198 (by decide) ?_
    refine lv_icmp_ne (tgt := 220) hx hb dX12_calendar_200 (by decide) (fun c_4 => ?_) (fun c_4 => ?_)
    · have hf := pbr_f c_4 hf
      exact k_X12_calendar_220 ⟨hx, hb, hml, hown, hts, hr, hlocks, hX⟩ hA hr10 x1 x2 x3 x4 x5 x6 x7 s_typed s_months s_years hf _ _ hP hD hS ls (lv_sub hl [1, 2, 3, 4, 5, 6, 7, 8] rfl)
    have hf := pbr_t c_4 hf
    refine lv_iload_n hx hb dX12_calendar_203 rfl (lv_at hl 4 rfl) ?_
    refine lv_bipush (v := (8 : Int32)) hx hb dX12_calendar_204 (by decide) ?_
    refine lv_icmp_ge (tgt := 220) hx hb dX12_calendar_206 (by decide) (fun c_5 => ?_) (fun c_5 => ?_)
    · have hf := pbr_t c_5 hf
      exact k_X12_calendar_220 ⟨hx, hb, hml, hown, hts, hr, hlocks, hX⟩ hA hr10 x1 x2 x3 x4 x5 x6 x7 s_typed s_months s_years hf _ _ hP hD hS ls (lv_sub hl [1, 2, 3, 4, 5, 6, 7, 8] rfl)
    have hf := pbr_f c_5 hf
    refine lv_iload hx hb dX12_calendar_209 (lv_at hl 5 rfl) ?_
    refine lv_bipush (v := (12 : Int32)) hx hb dX12_calendar_211 (by decide) ?_
    refine lv_icmp_lt (tgt := 220) hx hb dX12_calendar_213 (by decide) (fun c_6 => ?_) (fun c_6 => ?_)
    · have hf := pbr_t c_6 hf
      exact k_X12_calendar_220 ⟨hx, hb, hml, hown, hts, hr, hlocks, hX⟩ hA hr10 x1 x2 x3 x4 x5 x6 x7 s_typed s_months s_years hf _ _ hP hD hS ls (lv_sub hl [1, 2, 3, 4, 5, 6, 7, 8] rfl)
    have hf := pbr_f c_6 hf
    refine lv_iconst (v := (1 : Int32)) hx hb dX12_calendar_216 (by decide) ?_
    refine lv_goto (tgt := 221) hx hb dX12_calendar_217 (by decide) ?_
    exact k_X12_calendar_221 ⟨hx, hb, hml, hown, hts, hr, hlocks, hX⟩ hA hr10 x1 x2 x3 x4 x5 x6 x7 (1 : Int32) s_typed s_months s_years hf _ _ hP hD hS ls (lv_sub hl [1, 2, 3, 4, 5, 6, 7, 8] rfl)
  have hf := pbr_f c_3 hf
  refine lv_iload hx hb dX12_calendar_170 (lv_at hl 0 rfl) ?_
  refine lv_if_eq (tgt := 192) hx hb dX12_calendar_172 (by decide) (fun c_7 => ?_) (fun c_7 => ?_)
  · have hf := pbr_t c_7 hf
    exact k_X12_calendar_192 ⟨hx, hb, hml, hown, hts, hr, hlocks, hX⟩ hA hr10 x1 x2 x3 x4 x5 x6 x7 s_typed s_months s_years hf _ _ hP hD hS ls (lv_sub hl [1, 2, 3, 4, 5, 6, 7, 8] rfl)
  have hf := pbr_f c_7 hf
  refine lv_iload_n hx hb dX12_calendar_175 rfl (lv_at hl 4 rfl) ?_
  refine lv_bipush (v := (8 : Int32)) hx hb dX12_calendar_176 (by decide) ?_
  refine lv_icmp_ge (tgt := 192) hx hb dX12_calendar_178 (by decide) (fun c_8 => ?_) (fun c_8 => ?_)
  · have hf := pbr_t c_8 hf
    exact k_X12_calendar_192 ⟨hx, hb, hml, hown, hts, hr, hlocks, hX⟩ hA hr10 x1 x2 x3 x4 x5 x6 x7 s_typed s_months s_years hf _ _ hP hD hS ls (lv_sub hl [1, 2, 3, 4, 5, 6, 7, 8] rfl)
  have hf := pbr_f c_8 hf
  refine lv_iload hx hb dX12_calendar_181 (lv_at hl 5 rfl) ?_
  refine lv_bipush (v := (13 : Int32)) hx hb dX12_calendar_183 (by decide) ?_
  refine lv_icmp_ge (tgt := 192) hx hb dX12_calendar_185 (by decide) (fun c_9 => ?_) (fun c_9 => ?_)
  · have hf := pbr_t c_9 hf
    exact k_X12_calendar_192 ⟨hx, hb, hml, hown, hts, hr, hlocks, hX⟩ hA hr10 x1 x2 x3 x4 x5 x6 x7 s_typed s_months s_years hf _ _ hP hD hS ls (lv_sub hl [1, 2, 3, 4, 5, 6, 7, 8] rfl)
  have hf := pbr_f c_9 hf
  refine lv_iconst (v := (1 : Int32)) hx hb dX12_calendar_188 (by decide) ?_
  refine lv_goto (tgt := 221) hx hb dX12_calendar_189 (by decide) ?_
  exact k_X12_calendar_221 ⟨hx, hb, hml, hown, hts, hr, hlocks, hX⟩ hA hr10 x1 x2 x3 x4 x5 x6 x7 (1 : Int32) s_typed s_months s_years hf _ _ hP hD hS ls (lv_sub hl [1, 2, 3, 4, 5, 6, 7, 8] rfl)

def f_X12_calendar_159 (r10 : (Int32) → (Int32) → (Int32) → (Int32) → (Int32) → (Nat → Int32) → (Nat → Int32) → Option ((Int32) × (Int32) × (Nat → Int32) × (Nat → Int32))) (s_text : Nat → Int32) (x1 : Int32) (x2 : Int32) (x3 : Int32) (x4 : Int32) (x5 : Int32) (x6 : Int32) (x7 : Int32) (s_typed : Int32) (s_months : Nat → Int32) (s_years : Nat → Int32) : Option ((Int32) × (Int32) × (Nat → Int32) × (Nat → Int32)) :=
  f_X12_calendar_160 r10 s_text x1 x2 x3 x4 x5 x6 x7 (0 : Int32) s_typed s_months s_years

set_option maxRecDepth 100000 in
set_option maxHeartbeats 4000000 in
theorem k_X12_calendar_159 {p : Program} {l : Launch} {e : Env} {s : State} {m : MethodId} {args : Array Value} {below : List Frame} {meth : Method} {c : Code} {A : Nat → Prop} {D : va_G} {cA : Nat → ClassId} (C0 : MX p s m args meth c cX12_calendar 10 wsX12_calendar RX12 (some .int) D cA) (hA : ∀ q, s.heap.size ≤ q → A q) {a0 : Nat} {q_text : Nat} {q_months : Nat} {q_years : Nat} {q_depths : Nat} {q_tune : Nat} {q_far : Nat} {q_books : Nat} {q_told : Nat} {q_ring : Nat} {q_woods : Nat} {q_ends : Nat} {q_wood : Nat} {q_sheets : Nat} {q_marsh : Nat} {q_oldest : Nat} {q_youngest : Nat} {q_knowns : Nat} {q_known : Nat} {q_weight : Nat} {q_chance : Nat} {q_digs : Nat} {q_draft : Nat} {q_isKept : Nat} {s_trace : Int64} {s_earliest : Int32} {s_latest : Int32} {s_firstYear : Int32} {s_rings : Int32} {s_text : Nat → Int32} {o_r : Int32} {o_typed : Int32} {o_months : Nat → Int32} {o_years : Nat → Int32} {r10 : (Int32) → (Int32) → (Int32) → (Int32) → (Int32) → (Nat → Int32) → (Nat → Int32) → Option ((Int32) × (Int32) × (Nat → Int32) × (Nat → Int32))} (hr10 : ∀ (x1 : Int32) (x2 : Int32) (x3 : Int32) (x4 : Int32) (s_typed : Int32) (s_months : Nat → Int32) (s_years : Nat → Int32), r10 x1 x2 x3 x4 s_typed s_months s_years = some (o_r, o_typed, o_months, o_years) → ∀ (H : Heap) (locs : List Loc), va_P D vwCl (w_X12_calendar a0 q_text q_months q_years q_depths q_tune q_far q_books q_told q_ring q_woods q_ends q_wood q_sheets q_marsh q_oldest q_youngest q_knowns q_known q_weight q_chance q_digs q_draft q_isKept cA s_trace s_typed s_earliest s_latest s_firstYear s_rings s_text s_months s_years) H → va_D A (w_X12_calendar a0 q_text q_months q_years q_depths q_tune q_far q_books q_told q_ring q_woods q_ends q_wood q_sheets q_marsh q_oldest q_youngest q_knowns q_known q_weight q_chance q_digs q_draft q_isKept cA s_trace s_typed s_earliest s_latest s_firstYear s_rings s_text s_months s_years) → va_S A s.heap H locs → ∀ ls : Array Slot, lv_has ls 10 [(0, .ref a0), (1, .int x1), (2, .int x2), (3, .int x3), (4, .int x4)] → W p l e rm_X12_calendar s m args below meth c H locs 0 0 (MQ below (CQ D (some (.int o_r)) (w_X12_calendar a0 q_text q_months q_years q_depths q_tune q_far q_books q_told q_ring q_woods q_ends q_wood q_sheets q_marsh q_oldest q_youngest q_knowns q_known q_weight q_chance q_digs q_draft q_isKept cA s_trace o_typed s_earliest s_latest s_firstYear s_rings s_text o_months o_years) A) args s 0 0 A) (F0 m 10 ls [])) : ∀ (x1 : Int32) (x2 : Int32) (x3 : Int32) (x4 : Int32) (x5 : Int32) (x6 : Int32) (x7 : Int32) (s_typed : Int32) (s_months : Nat → Int32) (s_years : Nat → Int32), f_X12_calendar_159 r10 s_text x1 x2 x3 x4 x5 x6 x7 s_typed s_months s_years = some (o_r, o_typed, o_months, o_years) → ∀ (H : Heap) (locs : List Loc), va_P D vwCl (w_X12_calendar a0 q_text q_months q_years q_depths q_tune q_far q_books q_told q_ring q_woods q_ends q_wood q_sheets q_marsh q_oldest q_youngest q_knowns q_known q_weight q_chance q_digs q_draft q_isKept cA s_trace s_typed s_earliest s_latest s_firstYear s_rings s_text s_months s_years) H → va_D A (w_X12_calendar a0 q_text q_months q_years q_depths q_tune q_far q_books q_told q_ring q_woods q_ends q_wood q_sheets q_marsh q_oldest q_youngest q_knowns q_known q_weight q_chance q_digs q_draft q_isKept cA s_trace s_typed s_earliest s_latest s_firstYear s_rings s_text s_months s_years) → va_S A s.heap H locs → ∀ ls : Array Slot, lv_has ls 10 [(0, .ref a0), (1, .int x1), (2, .int x2), (3, .int x3), (4, .int x4), (5, .int x5), (6, .int x6), (7, .int x7)] → W p l e rm_X12_calendar s m args below meth c H locs 0 0 (MQ below (CQ D (some (.int o_r)) (w_X12_calendar a0 q_text q_months q_years q_depths q_tune q_far q_books q_told q_ring q_woods q_ends q_wood q_sheets q_marsh q_oldest q_youngest q_knowns q_known q_weight q_chance q_digs q_draft q_isKept cA s_trace o_typed s_earliest s_latest s_firstYear s_rings s_text o_months o_years) A) args s 0 0 A) (F0 m 159 ls []) := by
  obtain ⟨hx, hb, hml, hown, hts, hr, hlocks, hX⟩ := C0
  have hK := hX.1
  have hN := hX.2
  intro x1 x2 x3 x4 x5 x6 x7 s_typed s_months s_years hf H locs hP hD hS ls hl
  unfold f_X12_calendar_159 at hf
  refine lv_iconst (v := (0 : Int32)) hx hb dX12_calendar_159 (by decide) ?_
  exact k_X12_calendar_160 ⟨hx, hb, hml, hown, hts, hr, hlocks, hX⟩ hA hr10 x1 x2 x3 x4 x5 x6 x7 (0 : Int32) s_typed s_months s_years hf _ _ hP hD hS ls (lv_sub hl [0, 1, 2, 3, 4, 5, 6, 7] rfl)

def f_X12_calendar_135 (r10 : (Int32) → (Int32) → (Int32) → (Int32) → (Int32) → (Nat → Int32) → (Nat → Int32) → Option ((Int32) × (Int32) × (Nat → Int32) × (Nat → Int32))) (s_text : Nat → Int32) (x1 : Int32) (x2 : Int32) (x3 : Int32) (x4 : Int32) (x5 : Int32) (x6 : Int32) (x7 : Int32) (s_typed : Int32) (s_months : Nat → Int32) (s_years : Nat → Int32) : Option ((Int32) × (Int32) × (Nat → Int32) × (Nat → Int32)) :=
  pcl (f_X12_in x7 (29 : Int32) (30 : Int32)) (fun r_1 => (
  pbr (r_1 = 0)
    (f_X12_calendar_159 r10 s_text x1 x2 x3 x4 x5 x6 x7 s_typed s_months s_years)
    (pbr ((x1 - x6) = (2 : Int32))
      (f_X12_calendar_160 r10 s_text x1 x2 x3 x4 x5 x6 x7 (1 : Int32) s_typed s_months s_years)
      (f_X12_calendar_159 r10 s_text x1 x2 x3 x4 x5 x6 x7 s_typed s_months s_years))))

set_option maxRecDepth 100000 in
set_option maxHeartbeats 4000000 in
theorem k_X12_calendar_135 {p : Program} {l : Launch} {e : Env} {s : State} {m : MethodId} {args : Array Value} {below : List Frame} {meth : Method} {c : Code} {A : Nat → Prop} {D : va_G} {cA : Nat → ClassId} (C0 : MX p s m args meth c cX12_calendar 10 wsX12_calendar RX12 (some .int) D cA) (hA : ∀ q, s.heap.size ≤ q → A q) {a0 : Nat} {q_text : Nat} {q_months : Nat} {q_years : Nat} {q_depths : Nat} {q_tune : Nat} {q_far : Nat} {q_books : Nat} {q_told : Nat} {q_ring : Nat} {q_woods : Nat} {q_ends : Nat} {q_wood : Nat} {q_sheets : Nat} {q_marsh : Nat} {q_oldest : Nat} {q_youngest : Nat} {q_knowns : Nat} {q_known : Nat} {q_weight : Nat} {q_chance : Nat} {q_digs : Nat} {q_draft : Nat} {q_isKept : Nat} {s_trace : Int64} {s_earliest : Int32} {s_latest : Int32} {s_firstYear : Int32} {s_rings : Int32} {s_text : Nat → Int32} {o_r : Int32} {o_typed : Int32} {o_months : Nat → Int32} {o_years : Nat → Int32} {r10 : (Int32) → (Int32) → (Int32) → (Int32) → (Int32) → (Nat → Int32) → (Nat → Int32) → Option ((Int32) × (Int32) × (Nat → Int32) × (Nat → Int32))} (hr10 : ∀ (x1 : Int32) (x2 : Int32) (x3 : Int32) (x4 : Int32) (s_typed : Int32) (s_months : Nat → Int32) (s_years : Nat → Int32), r10 x1 x2 x3 x4 s_typed s_months s_years = some (o_r, o_typed, o_months, o_years) → ∀ (H : Heap) (locs : List Loc), va_P D vwCl (w_X12_calendar a0 q_text q_months q_years q_depths q_tune q_far q_books q_told q_ring q_woods q_ends q_wood q_sheets q_marsh q_oldest q_youngest q_knowns q_known q_weight q_chance q_digs q_draft q_isKept cA s_trace s_typed s_earliest s_latest s_firstYear s_rings s_text s_months s_years) H → va_D A (w_X12_calendar a0 q_text q_months q_years q_depths q_tune q_far q_books q_told q_ring q_woods q_ends q_wood q_sheets q_marsh q_oldest q_youngest q_knowns q_known q_weight q_chance q_digs q_draft q_isKept cA s_trace s_typed s_earliest s_latest s_firstYear s_rings s_text s_months s_years) → va_S A s.heap H locs → ∀ ls : Array Slot, lv_has ls 10 [(0, .ref a0), (1, .int x1), (2, .int x2), (3, .int x3), (4, .int x4)] → W p l e rm_X12_calendar s m args below meth c H locs 0 0 (MQ below (CQ D (some (.int o_r)) (w_X12_calendar a0 q_text q_months q_years q_depths q_tune q_far q_books q_told q_ring q_woods q_ends q_wood q_sheets q_marsh q_oldest q_youngest q_knowns q_known q_weight q_chance q_digs q_draft q_isKept cA s_trace o_typed s_earliest s_latest s_firstYear s_rings s_text o_months o_years) A) args s 0 0 A) (F0 m 10 ls [])) : ∀ (x1 : Int32) (x2 : Int32) (x3 : Int32) (x4 : Int32) (x5 : Int32) (x6 : Int32) (x7 : Int32) (s_typed : Int32) (s_months : Nat → Int32) (s_years : Nat → Int32), f_X12_calendar_135 r10 s_text x1 x2 x3 x4 x5 x6 x7 s_typed s_months s_years = some (o_r, o_typed, o_months, o_years) → ∀ (H : Heap) (locs : List Loc), va_P D vwCl (w_X12_calendar a0 q_text q_months q_years q_depths q_tune q_far q_books q_told q_ring q_woods q_ends q_wood q_sheets q_marsh q_oldest q_youngest q_knowns q_known q_weight q_chance q_digs q_draft q_isKept cA s_trace s_typed s_earliest s_latest s_firstYear s_rings s_text s_months s_years) H → va_D A (w_X12_calendar a0 q_text q_months q_years q_depths q_tune q_far q_books q_told q_ring q_woods q_ends q_wood q_sheets q_marsh q_oldest q_youngest q_knowns q_known q_weight q_chance q_digs q_draft q_isKept cA s_trace s_typed s_earliest s_latest s_firstYear s_rings s_text s_months s_years) → va_S A s.heap H locs → ∀ ls : Array Slot, lv_has ls 10 [(0, .ref a0), (1, .int x1), (2, .int x2), (3, .int x3), (4, .int x4), (5, .int x5), (6, .int x6), (7, .int x7)] → W p l e rm_X12_calendar s m args below meth c H locs 0 0 (MQ below (CQ D (some (.int o_r)) (w_X12_calendar a0 q_text q_months q_years q_depths q_tune q_far q_books q_told q_ring q_woods q_ends q_wood q_sheets q_marsh q_oldest q_youngest q_knowns q_known q_weight q_chance q_digs q_draft q_isKept cA s_trace o_typed s_earliest s_latest s_firstYear s_rings s_text o_months o_years) A) args s 0 0 A) (F0 m 135 ls []) := by
  obtain ⟨hx, hb, hml, hown, hts, hr, hlocks, hX⟩ := C0
  have hK := hX.1
  have hN := hX.2
  intro x1 x2 x3 x4 x5 x6 x7 s_typed s_months s_years hf H locs hP hD hS ls hl
  unfold f_X12_calendar_135 at hf
  refine lv_iload hx hb dX12_calendar_135 (lv_at hl 7 rfl) ?_
  refine lv_bipush (v := (29 : Int32)) hx hb dX12_calendar_137 (by decide) ?_
  refine lv_bipush (v := (30 : Int32)) hx hb dX12_calendar_139 (by decide) ?_
  obtain ⟨r_1, hc_2, hf⟩ := pcl_e hf
  refine m_callS2 (As := [.int x7, .int (29 : Int32), .int (30 : Int32)]) (rest := []) ⟨hx, hb, hml, hown, hts⟩ hX (ct_X12_in l D cA x7 (29 : Int32) (30 : Int32) r_1 hc_2) (va_cwS 3 hts gX12_calendar_X12_in rfl rfl rfl (by decide +kernel) ⟨Nat.le_of_ble_eq_true rfl, Nat.le_of_ble_eq_true rfl⟩) hP hD hS hA [] [0, 1, 2, 3] 4 (by decide) rfl rfl (WS' := (w_X12_calendar a0 q_text q_months q_years q_depths q_tune q_far q_books q_told q_ring q_woods q_ends q_wood q_sheets q_marsh q_oldest q_youngest q_knowns q_known q_weight q_chance q_digs q_draft q_isKept cA s_trace s_typed s_earliest s_latest s_firstYear s_rings s_text s_months s_years)) (WR := [(a0, .inr (12, [.long s_trace, .ref q_text, .int s_typed, .ref q_depths, .ref q_tune, .ref q_far, .ref q_books, .ref q_told, .int s_earliest, .int s_latest, .ref q_years, .ref q_months, .int s_firstYear, .int s_rings, .ref q_ring, .ref q_woods, .ref q_ends, .ref q_wood, .ref q_sheets, .ref q_marsh, .ref q_oldest, .ref q_youngest, .ref q_knowns, .ref q_known, .ref q_weight, .ref q_chance, .ref q_digs, .ref q_draft, .ref q_isKept])), (q_text, .inl (cA 0, 400, .inl s_text)), (q_months, .inl (cA 1, 224, .inl s_months)), (q_years, .inl (cA 1, 2, .inl s_years))]) rfl rfl rfl rfl (by decide) (by decide) rfl hl.1 rfl (st' := [.int r_1]) rfl (Nat.le_of_ble_eq_true rfl) ⟨Nat.zero_le _, Nat.zero_le _⟩ dX12_calendar_141 (fun H locs hP hD hS => ?_)
  refine lv_if_eq (tgt := 159) hx hb dX12_calendar_144 (by decide) (fun c_3 => ?_) (fun c_3 => ?_)
  · have hf := pbr_t c_3 hf
    exact k_X12_calendar_159 ⟨hx, hb, hml, hown, hts, hr, hlocks, hX⟩ hA hr10 x1 x2 x3 x4 x5 x6 x7 s_typed s_months s_years hf _ _ hP hD hS ls (lv_sub hl [0, 1, 2, 3, 4, 5, 6, 7] rfl)
  have hf := pbr_f c_3 hf
  refine lv_iload_n hx hb dX12_calendar_147 rfl (lv_at hl 1 rfl) ?_
  refine lv_iload hx hb dX12_calendar_148 (lv_at hl 6 rfl) ?_
  refine lv_isub hx hb dX12_calendar_150 ?_
  refine lv_iconst (v := (2 : Int32)) hx hb dX12_calendar_151 (by decide) ?_
  refine lv_icmp_ne (tgt := 159) hx hb dX12_calendar_152 (by decide) (fun c_4 => ?_) (fun c_4 => ?_)
  · have hf := pbr_f c_4 hf
    exact k_X12_calendar_159 ⟨hx, hb, hml, hown, hts, hr, hlocks, hX⟩ hA hr10 x1 x2 x3 x4 x5 x6 x7 s_typed s_months s_years hf _ _ hP hD hS ls (lv_sub hl [0, 1, 2, 3, 4, 5, 6, 7] rfl)
  have hf := pbr_t c_4 hf
  refine lv_iconst (v := (1 : Int32)) hx hb dX12_calendar_155 (by decide) ?_
  refine lv_goto (tgt := 160) hx hb dX12_calendar_156 (by decide) ?_
  exact k_X12_calendar_160 ⟨hx, hb, hml, hown, hts, hr, hlocks, hX⟩ hA hr10 x1 x2 x3 x4 x5 x6 x7 (1 : Int32) s_typed s_months s_years hf _ _ hP hD hS ls (lv_sub hl [0, 1, 2, 3, 4, 5, 6, 7] rfl)

def f_X12_calendar_68 (r10 : (Int32) → (Int32) → (Int32) → (Int32) → (Int32) → (Nat → Int32) → (Nat → Int32) → Option ((Int32) × (Int32) × (Nat → Int32) × (Nat → Int32))) (s_text : Nat → Int32) : Nat → (Int32) → (Int32) → (Int32) → (Int32) → (Int32) → (Int32) → (Int32) → (Int32) → (Nat → Int32) → (Nat → Int32) → Option ((Int32) × (Int32) × (Nat → Int32) × (Nat → Int32))
  | 0, _, _, _, _, _, _, _, _, _, _ => none
  | k + 1, x1, x2, x3, x4, x5, x6, x7, s_typed, s_months, s_years =>
    pcl (f_X12_isDigit x5) (fun r_1 => (
    pbr (r_1 = 0)
      (f_X12_calendar_135 r10 s_text x1 x2 x3 x4 x5 x6 x7 s_typed s_months s_years)
      (pbr (s_typed ≤ x1)
        (f_X12_calendar_135 r10 s_text x1 x2 x3 x4 x5 x6 x7 s_typed s_months s_years)
        (pgd (pin x1 400) (
        pcl (f_X12_isDigit ((s_text x1.toNatClampNeg) &&& (255 : Int32))) (fun r_6 => (
        pbr (r_6 = 0)
          (f_X12_calendar_135 r10 s_text x1 x2 x3 x4 x5 x6 x7 s_typed s_months s_years)
          (pbr (x7 ≤ (99 : Int32))
            (plt (((((10 : Int32) * x7) + (s_text x1.toNatClampNeg)) - (48 : Int32)) : Int32) (fun x7_10 => (
            plt (x1 + (1 : Int32) : Int32) (fun x1_11 => (
            (f_X12_calendar_68 r10 s_text k) x1_11 x2 x3 x4 x5 x6 x7_10 s_typed s_months s_years)))))
            (plt (x1 + (1 : Int32) : Int32) (fun x1_12 => (
            (f_X12_calendar_68 r10 s_text k) x1_12 x2 x3 x4 x5 x6 x7 s_typed s_months s_years)))))))))))

set_option maxRecDepth 100000 in
set_option maxHeartbeats 4000000 in
theorem k_X12_calendar_68 {p : Program} {l : Launch} {e : Env} {s : State} {m : MethodId} {args : Array Value} {below : List Frame} {meth : Method} {c : Code} {A : Nat → Prop} {D : va_G} {cA : Nat → ClassId} (C0 : MX p s m args meth c cX12_calendar 10 wsX12_calendar RX12 (some .int) D cA) (hA : ∀ q, s.heap.size ≤ q → A q) {a0 : Nat} {q_text : Nat} {q_months : Nat} {q_years : Nat} {q_depths : Nat} {q_tune : Nat} {q_far : Nat} {q_books : Nat} {q_told : Nat} {q_ring : Nat} {q_woods : Nat} {q_ends : Nat} {q_wood : Nat} {q_sheets : Nat} {q_marsh : Nat} {q_oldest : Nat} {q_youngest : Nat} {q_knowns : Nat} {q_known : Nat} {q_weight : Nat} {q_chance : Nat} {q_digs : Nat} {q_draft : Nat} {q_isKept : Nat} {s_trace : Int64} {s_earliest : Int32} {s_latest : Int32} {s_firstYear : Int32} {s_rings : Int32} {s_text : Nat → Int32} {o_r : Int32} {o_typed : Int32} {o_months : Nat → Int32} {o_years : Nat → Int32} {r10 : (Int32) → (Int32) → (Int32) → (Int32) → (Int32) → (Nat → Int32) → (Nat → Int32) → Option ((Int32) × (Int32) × (Nat → Int32) × (Nat → Int32))} (hr10 : ∀ (x1 : Int32) (x2 : Int32) (x3 : Int32) (x4 : Int32) (s_typed : Int32) (s_months : Nat → Int32) (s_years : Nat → Int32), r10 x1 x2 x3 x4 s_typed s_months s_years = some (o_r, o_typed, o_months, o_years) → ∀ (H : Heap) (locs : List Loc), va_P D vwCl (w_X12_calendar a0 q_text q_months q_years q_depths q_tune q_far q_books q_told q_ring q_woods q_ends q_wood q_sheets q_marsh q_oldest q_youngest q_knowns q_known q_weight q_chance q_digs q_draft q_isKept cA s_trace s_typed s_earliest s_latest s_firstYear s_rings s_text s_months s_years) H → va_D A (w_X12_calendar a0 q_text q_months q_years q_depths q_tune q_far q_books q_told q_ring q_woods q_ends q_wood q_sheets q_marsh q_oldest q_youngest q_knowns q_known q_weight q_chance q_digs q_draft q_isKept cA s_trace s_typed s_earliest s_latest s_firstYear s_rings s_text s_months s_years) → va_S A s.heap H locs → ∀ ls : Array Slot, lv_has ls 10 [(0, .ref a0), (1, .int x1), (2, .int x2), (3, .int x3), (4, .int x4)] → W p l e rm_X12_calendar s m args below meth c H locs 0 0 (MQ below (CQ D (some (.int o_r)) (w_X12_calendar a0 q_text q_months q_years q_depths q_tune q_far q_books q_told q_ring q_woods q_ends q_wood q_sheets q_marsh q_oldest q_youngest q_knowns q_known q_weight q_chance q_digs q_draft q_isKept cA s_trace o_typed s_earliest s_latest s_firstYear s_rings s_text o_months o_years) A) args s 0 0 A) (F0 m 10 ls [])) : ∀ (k : Nat) (x1 : Int32) (x2 : Int32) (x3 : Int32) (x4 : Int32) (x5 : Int32) (x6 : Int32) (x7 : Int32) (s_typed : Int32) (s_months : Nat → Int32) (s_years : Nat → Int32), f_X12_calendar_68 r10 s_text k x1 x2 x3 x4 x5 x6 x7 s_typed s_months s_years = some (o_r, o_typed, o_months, o_years) → ∀ (H : Heap) (locs : List Loc), va_P D vwCl (w_X12_calendar a0 q_text q_months q_years q_depths q_tune q_far q_books q_told q_ring q_woods q_ends q_wood q_sheets q_marsh q_oldest q_youngest q_knowns q_known q_weight q_chance q_digs q_draft q_isKept cA s_trace s_typed s_earliest s_latest s_firstYear s_rings s_text s_months s_years) H → va_D A (w_X12_calendar a0 q_text q_months q_years q_depths q_tune q_far q_books q_told q_ring q_woods q_ends q_wood q_sheets q_marsh q_oldest q_youngest q_knowns q_known q_weight q_chance q_digs q_draft q_isKept cA s_trace s_typed s_earliest s_latest s_firstYear s_rings s_text s_months s_years) → va_S A s.heap H locs → ∀ ls : Array Slot, lv_has ls 10 [(0, .ref a0), (1, .int x1), (2, .int x2), (3, .int x3), (4, .int x4), (5, .int x5), (6, .int x6), (7, .int x7)] → W p l e rm_X12_calendar s m args below meth c H locs 0 0 (MQ below (CQ D (some (.int o_r)) (w_X12_calendar a0 q_text q_months q_years q_depths q_tune q_far q_books q_told q_ring q_woods q_ends q_wood q_sheets q_marsh q_oldest q_youngest q_knowns q_known q_weight q_chance q_digs q_draft q_isKept cA s_trace o_typed s_earliest s_latest s_firstYear s_rings s_text o_months o_years) A) args s 0 0 A) (F0 m 68 ls []) := by
  obtain ⟨hx, hb, hml, hown, hts, hr, hlocks, hX⟩ := C0
  have hK := hX.1
  have hN := hX.2
  intro k
  induction k with
  | zero =>
    intro x1 x2 x3 x4 x5 x6 x7 s_typed s_months s_years hf
    cases hf
  | succ k ih =>
    intro x1 x2 x3 x4 x5 x6 x7 s_typed s_months s_years hf H locs hP hD hS ls hl
    rw [f_X12_calendar_68] at hf
    refine lv_iload hx hb dX12_calendar_68 (lv_at hl 5 rfl) ?_
    obtain ⟨r_1, hc_2, hf⟩ := pcl_e hf
    refine m_callS2 (As := [.int x5]) (rest := []) ⟨hx, hb, hml, hown, hts⟩ hX (ct_X12_isDigit l D cA x5 r_1 hc_2) (va_cwS 1 hts gX12_calendar_X12_isDigit rfl rfl rfl (by decide +kernel) ⟨Nat.le_of_ble_eq_true rfl, Nat.le_of_ble_eq_true rfl⟩) hP hD hS hA [] [0, 1, 2, 3] 4 (by decide) rfl rfl (WS' := (w_X12_calendar a0 q_text q_months q_years q_depths q_tune q_far q_books q_told q_ring q_woods q_ends q_wood q_sheets q_marsh q_oldest q_youngest q_knowns q_known q_weight q_chance q_digs q_draft q_isKept cA s_trace s_typed s_earliest s_latest s_firstYear s_rings s_text s_months s_years)) (WR := [(a0, .inr (12, [.long s_trace, .ref q_text, .int s_typed, .ref q_depths, .ref q_tune, .ref q_far, .ref q_books, .ref q_told, .int s_earliest, .int s_latest, .ref q_years, .ref q_months, .int s_firstYear, .int s_rings, .ref q_ring, .ref q_woods, .ref q_ends, .ref q_wood, .ref q_sheets, .ref q_marsh, .ref q_oldest, .ref q_youngest, .ref q_knowns, .ref q_known, .ref q_weight, .ref q_chance, .ref q_digs, .ref q_draft, .ref q_isKept])), (q_text, .inl (cA 0, 400, .inl s_text)), (q_months, .inl (cA 1, 224, .inl s_months)), (q_years, .inl (cA 1, 2, .inl s_years))]) rfl rfl rfl rfl (by decide) (by decide) rfl hl.1 rfl (st' := [.int r_1]) rfl (Nat.le_of_ble_eq_true rfl) ⟨Nat.zero_le _, Nat.zero_le _⟩ dX12_calendar_70 (fun H locs hP hD hS => ?_)
    refine lv_if_eq (tgt := 135) hx hb dX12_calendar_73 (by decide) (fun c_3 => ?_) (fun c_3 => ?_)
    · have hf := pbr_t c_3 hf
      exact k_X12_calendar_135 ⟨hx, hb, hml, hown, hts, hr, hlocks, hX⟩ hA hr10 x1 x2 x3 x4 x5 x6 x7 s_typed s_months s_years hf _ _ hP hD hS ls (lv_sub hl [0, 1, 2, 3, 4, 5, 6, 7] rfl)
    have hf := pbr_f c_3 hf
    refine lv_iload_n hx hb dX12_calendar_76 rfl (lv_at hl 1 rfl) ?_
    refine lv_aload_n hx hb dX12_calendar_77 rfl (lv_at hl 0 rfl) ?_
    refine va_get (D := D) (ci := 12) (v := .int s_typed) (C := RX12) (T := TX12) (N := 29) hx hb hts hn_X12_calendar_X12 hown hK hP 0 rfl rfl 2 (by decide) (hts _ hw_X12_calendar_f90) (fun _ h9 => h9) rfl dX12_calendar_78 ?_
    refine lv_icmp_ge (tgt := 135) hx hb dX12_calendar_81 (by decide) (fun c_4 => ?_) (fun c_4 => ?_)
    · have hf := pbr_t c_4 hf
      exact k_X12_calendar_135 ⟨hx, hb, hml, hown, hts, hr, hlocks, hX⟩ hA hr10 x1 x2 x3 x4 x5 x6 x7 s_typed s_months s_years hf _ _ hP hD hS ls (lv_sub hl [0, 1, 2, 3, 4, 5, 6, 7] rfl)
    have hf := pbr_f c_4 hf
    refine lv_aload_n hx hb dX12_calendar_84 rfl (lv_at hl 0 rfl) ?_
    refine va_get (D := D) (ci := 12) (v := .ref q_text) (C := RX12) (T := TX12) (N := 29) hx hb hts hn_X12_calendar_X12 hown hK hP 0 rfl rfl 1 (by decide) (hts _ hw_X12_calendar_f7) (fun _ h9 => h9) rfl dX12_calendar_85 ?_
    refine lv_iload_n hx hb dX12_calendar_88 rfl (lv_at hl 1 rfl) ?_
    obtain ⟨g_5, hf⟩ := pgd_e hf
    refine va_bald hx hb hK hP 1 0 rfl rfl g_5 dX12_calendar_89 ?_
    refine lv_sipush (v := (255 : Int32)) hx hb dX12_calendar_90 (by decide) ?_
    refine lv_iand hx hb dX12_calendar_93 ?_
    obtain ⟨r_6, hc_7, hf⟩ := pcl_e hf
    refine m_callS2 (As := [.int ((s_text x1.toNatClampNeg) &&& (255 : Int32))]) (rest := []) ⟨hx, hb, hml, hown, hts⟩ hX (ct_X12_isDigit l D cA ((s_text x1.toNatClampNeg) &&& (255 : Int32)) r_6 hc_7) (va_cwS 1 hts gX12_calendar_X12_isDigit rfl rfl rfl (by decide +kernel) ⟨Nat.le_of_ble_eq_true rfl, Nat.le_of_ble_eq_true rfl⟩) hP hD hS hA [] [0, 1, 2, 3] 4 (by decide) rfl rfl (WS' := (w_X12_calendar a0 q_text q_months q_years q_depths q_tune q_far q_books q_told q_ring q_woods q_ends q_wood q_sheets q_marsh q_oldest q_youngest q_knowns q_known q_weight q_chance q_digs q_draft q_isKept cA s_trace s_typed s_earliest s_latest s_firstYear s_rings s_text s_months s_years)) (WR := [(a0, .inr (12, [.long s_trace, .ref q_text, .int s_typed, .ref q_depths, .ref q_tune, .ref q_far, .ref q_books, .ref q_told, .int s_earliest, .int s_latest, .ref q_years, .ref q_months, .int s_firstYear, .int s_rings, .ref q_ring, .ref q_woods, .ref q_ends, .ref q_wood, .ref q_sheets, .ref q_marsh, .ref q_oldest, .ref q_youngest, .ref q_knowns, .ref q_known, .ref q_weight, .ref q_chance, .ref q_digs, .ref q_draft, .ref q_isKept])), (q_text, .inl (cA 0, 400, .inl s_text)), (q_months, .inl (cA 1, 224, .inl s_months)), (q_years, .inl (cA 1, 2, .inl s_years))]) rfl rfl rfl rfl (by decide) (by decide) rfl hl.1 rfl (st' := [.int r_6]) rfl (Nat.le_of_ble_eq_true rfl) ⟨Nat.zero_le _, Nat.zero_le _⟩ dX12_calendar_94 (fun H locs hP hD hS => ?_)
    refine lv_if_eq (tgt := 135) hx hb dX12_calendar_97 (by decide) (fun c_8 => ?_) (fun c_8 => ?_)
    · have hf := pbr_t c_8 hf
      exact k_X12_calendar_135 ⟨hx, hb, hml, hown, hts, hr, hlocks, hX⟩ hA hr10 x1 x2 x3 x4 x5 x6 x7 s_typed s_months s_years hf _ _ hP hD hS ls (lv_sub hl [0, 1, 2, 3, 4, 5, 6, 7] rfl)
    have hf := pbr_f c_8 hf
    refine lv_iload hx hb dX12_calendar_100 (lv_at hl 7 rfl) ?_
    refine lv_bipush (v := (99 : Int32)) hx hb dX12_calendar_102 (by decide) ?_
    refine lv_icmp_le (tgt := 112) hx hb dX12_calendar_104 (by decide) (fun c_9 => ?_) (fun c_9 => ?_)
    · have hf := pbr_t c_9 hf
      refine lv_bipush (v := (10 : Int32)) hx hb dX12_calendar_112 (by decide) ?_
      refine lv_iload hx hb dX12_calendar_114 (lv_at hl 7 rfl) ?_
      refine lv_imul hx hb dX12_calendar_116 ?_
      refine lv_aload_n hx hb dX12_calendar_117 rfl (lv_at hl 0 rfl) ?_
      refine va_get (D := D) (ci := 12) (v := .ref q_text) (C := RX12) (T := TX12) (N := 29) hx hb hts hn_X12_calendar_X12 hown hK hP 0 rfl rfl 1 (by decide) (hts _ hw_X12_calendar_f7) (fun _ h9 => h9) rfl dX12_calendar_118 ?_
      refine lv_iload_n hx hb dX12_calendar_121 rfl (lv_at hl 1 rfl) ?_
      refine va_bald hx hb hK hP 1 0 rfl rfl g_5 dX12_calendar_122 ?_
      refine lv_iadd hx hb dX12_calendar_123 ?_
      refine lv_bipush (v := (48 : Int32)) hx hb dX12_calendar_124 (by decide) ?_
      refine lv_isub hx hb dX12_calendar_126 ?_
      refine lv_topi (fun x7_10 ex7_10 => ?_)
      have hf := plt_e ex7_10 hf
      refine lv_istore (lv' := [(7, .int x7_10), (0, .ref a0), (1, .int x1), (2, .int x2), (3, .int x3), (4, .int x4), (5, .int x5), (6, .int x6)]) hx hb dX12_calendar_127 hl (by decide) rfl (fun ls hl => ?_)
      obtain ⟨x1_11, ex1_11⟩ : ∃ z : Int32, z = x1 + (1 : Int32) := ⟨_, rfl⟩
      have hf := plt_e ex1_11 hf
      refine lv_iinc (v := x1_11) (lv' := [(1, .int x1_11), (7, .int x7_10), (0, .ref a0), (2, .int x2), (3, .int x3), (4, .int x4), (5, .int x5), (6, .int x6)]) hx hb dX12_calendar_129 hl (k := 2) rfl (by rw [ex1_11]; rfl) (by decide) rfl (fun ls hl => ?_)
      refine lv_goto (tgt := 68) hx hb dX12_calendar_132 (by decide) ?_
      exact ih x1_11 x2 x3 x4 x5 x6 x7_10 s_typed s_months s_years hf _ _ hP hD hS ls (lv_sub hl [2, 0, 3, 4, 5, 6, 7, 1] rfl)
    have hf := pbr_f c_9 hf
    refine lv_iload hx hb dX12_calendar_107 (lv_at hl 7 rfl) ?_
    refine lv_goto (tgt := 127) hx hb dX12_calendar_109 (by decide) ?_
    refine lv_istore (lv' := [(7, .int x7), (0, .ref a0), (1, .int x1), (2, .int x2), (3, .int x3), (4, .int x4), (5, .int x5), (6, .int x6)]) hx hb dX12_calendar_127 hl (by decide) rfl (fun ls hl => ?_)
    obtain ⟨x1_12, ex1_12⟩ : ∃ z : Int32, z = x1 + (1 : Int32) := ⟨_, rfl⟩
    have hf := plt_e ex1_12 hf
    refine lv_iinc (v := x1_12) (lv' := [(1, .int x1_12), (7, .int x7), (0, .ref a0), (2, .int x2), (3, .int x3), (4, .int x4), (5, .int x5), (6, .int x6)]) hx hb dX12_calendar_129 hl (k := 2) rfl (by rw [ex1_12]; rfl) (by decide) rfl (fun ls hl => ?_)
    refine lv_goto (tgt := 68) hx hb dX12_calendar_132 (by decide) ?_
    exact ih x1_12 x2 x3 x4 x5 x6 x7 s_typed s_months s_years hf _ _ hP hD hS ls (lv_sub hl [2, 0, 3, 4, 5, 6, 7, 1] rfl)

def f_X12_calendar_10 (s_text : Nat → Int32) : Nat → (Int32) → (Int32) → (Int32) → (Int32) → (Int32) → (Nat → Int32) → (Nat → Int32) → Option ((Int32) × (Int32) × (Nat → Int32) × (Nat → Int32))
  | 0, _, _, _, _, _, _, _ => none
  | k + 1, x1, x2, x3, x4, s_typed, s_months, s_years =>
    pbr (x2 = (-9 : Int32))
      (pbr (s_typed ≤ x1)
        (f_X12_calendar_288 s_text x2 x3 x4 s_typed s_months s_years)
        (pgd (pin x1 400) (
        plt (((s_text x1.toNatClampNeg) &&& (255 : Int32)) : Int32) (fun x5_4 => (
        plt (x1 + (1 : Int32) : Int32) (fun x1_5 => (
        pbr (x5_4 = (32 : Int32))
          ((f_X12_calendar_10 s_text k) x1_5 x2 x3 x4 s_typed s_months s_years)
          (pcl (f_X12_isDigit x5_4) (fun r_7 => (
          pbr (r_7 = 0)
            (f_X12_calendar_68 (f_X12_calendar_10 s_text k) s_text FU x1_5 x2 x3 x4 x5_4 x1 (0 : Int32) s_typed s_months s_years)
            (plt ((x5_4 - (48 : Int32)) : Int32) (fun x7_10 => (
            f_X12_calendar_68 (f_X12_calendar_10 s_text k) s_text FU x1_5 x2 x3 x4 x5_4 x1 x7_10 s_typed s_months s_years)))))))))))))
      (f_X12_calendar_288 s_text x2 x3 x4 s_typed s_months s_years)

set_option maxRecDepth 100000 in
set_option maxHeartbeats 4000000 in
theorem k_X12_calendar_10 {p : Program} {l : Launch} {e : Env} {s : State} {m : MethodId} {args : Array Value} {below : List Frame} {meth : Method} {c : Code} {A : Nat → Prop} {D : va_G} {cA : Nat → ClassId} (C0 : MX p s m args meth c cX12_calendar 10 wsX12_calendar RX12 (some .int) D cA) (hA : ∀ q, s.heap.size ≤ q → A q) {a0 : Nat} {q_text : Nat} {q_months : Nat} {q_years : Nat} {q_depths : Nat} {q_tune : Nat} {q_far : Nat} {q_books : Nat} {q_told : Nat} {q_ring : Nat} {q_woods : Nat} {q_ends : Nat} {q_wood : Nat} {q_sheets : Nat} {q_marsh : Nat} {q_oldest : Nat} {q_youngest : Nat} {q_knowns : Nat} {q_known : Nat} {q_weight : Nat} {q_chance : Nat} {q_digs : Nat} {q_draft : Nat} {q_isKept : Nat} {s_trace : Int64} {s_earliest : Int32} {s_latest : Int32} {s_firstYear : Int32} {s_rings : Int32} {s_text : Nat → Int32} {o_r : Int32} {o_typed : Int32} {o_months : Nat → Int32} {o_years : Nat → Int32} : ∀ (k : Nat) (x1 : Int32) (x2 : Int32) (x3 : Int32) (x4 : Int32) (s_typed : Int32) (s_months : Nat → Int32) (s_years : Nat → Int32), f_X12_calendar_10 s_text k x1 x2 x3 x4 s_typed s_months s_years = some (o_r, o_typed, o_months, o_years) → ∀ (H : Heap) (locs : List Loc), va_P D vwCl (w_X12_calendar a0 q_text q_months q_years q_depths q_tune q_far q_books q_told q_ring q_woods q_ends q_wood q_sheets q_marsh q_oldest q_youngest q_knowns q_known q_weight q_chance q_digs q_draft q_isKept cA s_trace s_typed s_earliest s_latest s_firstYear s_rings s_text s_months s_years) H → va_D A (w_X12_calendar a0 q_text q_months q_years q_depths q_tune q_far q_books q_told q_ring q_woods q_ends q_wood q_sheets q_marsh q_oldest q_youngest q_knowns q_known q_weight q_chance q_digs q_draft q_isKept cA s_trace s_typed s_earliest s_latest s_firstYear s_rings s_text s_months s_years) → va_S A s.heap H locs → ∀ ls : Array Slot, lv_has ls 10 [(0, .ref a0), (1, .int x1), (2, .int x2), (3, .int x3), (4, .int x4)] → W p l e rm_X12_calendar s m args below meth c H locs 0 0 (MQ below (CQ D (some (.int o_r)) (w_X12_calendar a0 q_text q_months q_years q_depths q_tune q_far q_books q_told q_ring q_woods q_ends q_wood q_sheets q_marsh q_oldest q_youngest q_knowns q_known q_weight q_chance q_digs q_draft q_isKept cA s_trace o_typed s_earliest s_latest s_firstYear s_rings s_text o_months o_years) A) args s 0 0 A) (F0 m 10 ls []) := by
  obtain ⟨hx, hb, hml, hown, hts, hr, hlocks, hX⟩ := C0
  have hK := hX.1
  have hN := hX.2
  intro k
  induction k with
  | zero =>
    intro x1 x2 x3 x4 s_typed s_months s_years hf
    cases hf
  | succ k ih =>
    intro x1 x2 x3 x4 s_typed s_months s_years hf H locs hP hD hS ls hl
    rw [f_X12_calendar_10] at hf
    refine lv_iload_n hx hb dX12_calendar_10 rfl (lv_at hl 2 rfl) ?_
    refine lv_bipush (v := (-9 : Int32)) hx hb dX12_calendar_11 (by decide) ?_
    refine lv_icmp_ne (tgt := 288) hx hb dX12_calendar_13 (by decide) (fun c_1 => ?_) (fun c_1 => ?_)
    · have hf := pbr_f c_1 hf
      exact k_X12_calendar_288 ⟨hx, hb, hml, hown, hts, hr, hlocks, hX⟩ hA x2 x3 x4 s_typed s_months s_years hf _ _ hP hD hS ls (lv_sub hl [0, 2, 3, 4] rfl)
    have hf := pbr_t c_1 hf
    refine lv_iload_n hx hb dX12_calendar_16 rfl (lv_at hl 1 rfl) ?_
    refine lv_aload_n hx hb dX12_calendar_17 rfl (lv_at hl 0 rfl) ?_
    refine va_get (D := D) (ci := 12) (v := .int s_typed) (C := RX12) (T := TX12) (N := 29) hx hb hts hn_X12_calendar_X12 hown hK hP 0 rfl rfl 2 (by decide) (hts _ hw_X12_calendar_f90) (fun _ h9 => h9) rfl dX12_calendar_18 ?_
    refine lv_icmp_ge (tgt := 288) hx hb dX12_calendar_21 (by decide) (fun c_2 => ?_) (fun c_2 => ?_)
    · have hf := pbr_t c_2 hf
      exact k_X12_calendar_288 ⟨hx, hb, hml, hown, hts, hr, hlocks, hX⟩ hA x2 x3 x4 s_typed s_months s_years hf _ _ hP hD hS ls (lv_sub hl [0, 2, 3, 4] rfl)
    have hf := pbr_f c_2 hf
    refine lv_aload_n hx hb dX12_calendar_24 rfl (lv_at hl 0 rfl) ?_
    refine va_get (D := D) (ci := 12) (v := .ref q_text) (C := RX12) (T := TX12) (N := 29) hx hb hts hn_X12_calendar_X12 hown hK hP 0 rfl rfl 1 (by decide) (hts _ hw_X12_calendar_f7) (fun _ h9 => h9) rfl dX12_calendar_25 ?_
    refine lv_iload_n hx hb dX12_calendar_28 rfl (lv_at hl 1 rfl) ?_
    obtain ⟨g_3, hf⟩ := pgd_e hf
    refine va_bald hx hb hK hP 1 0 rfl rfl g_3 dX12_calendar_29 ?_
    refine lv_sipush (v := (255 : Int32)) hx hb dX12_calendar_30 (by decide) ?_
    refine lv_iand hx hb dX12_calendar_33 ?_
    refine lv_topi (fun x5_4 ex5_4 => ?_)
    have hf := plt_e ex5_4 hf
    refine lv_istore (lv' := [(5, .int x5_4), (0, .ref a0), (1, .int x1), (2, .int x2), (3, .int x3), (4, .int x4)]) hx hb dX12_calendar_34 hl (by decide) rfl (fun ls hl => ?_)
    refine lv_iload_n hx hb dX12_calendar_36 rfl (lv_at hl 2 rfl) ?_
    refine lv_istore (lv' := [(6, .int x1), (5, .int x5_4), (0, .ref a0), (1, .int x1), (2, .int x2), (3, .int x3), (4, .int x4)]) hx hb dX12_calendar_37 hl (by decide) rfl (fun ls hl => ?_)
    obtain ⟨x1_5, ex1_5⟩ : ∃ z : Int32, z = x1 + (1 : Int32) := ⟨_, rfl⟩
    have hf := plt_e ex1_5 hf
    refine lv_iinc (v := x1_5) (lv' := [(1, .int x1_5), (6, .int x1), (5, .int x5_4), (0, .ref a0), (2, .int x2), (3, .int x3), (4, .int x4)]) hx hb dX12_calendar_39 hl (k := 3) rfl (by rw [ex1_5]; rfl) (by decide) rfl (fun ls hl => ?_)
    refine lv_iload hx hb dX12_calendar_42 (lv_at hl 2 rfl) ?_
    refine lv_bipush (v := (32 : Int32)) hx hb dX12_calendar_44 (by decide) ?_
    refine lv_icmp_eq (tgt := 285) hx hb dX12_calendar_46 (by decide) (fun c_6 => ?_) (fun c_6 => ?_)
    · have hf := pbr_t c_6 hf
      refine lv_goto (tgt := 10) hx hb dX12_calendar_285 (by decide) ?_
      exact ih x1_5 x2 x3 x4 s_typed s_months s_years hf _ _ hP hD hS ls (lv_sub hl [3, 0, 4, 5, 6] rfl)
    have hf := pbr_f c_6 hf
    refine lv_iload hx hb dX12_calendar_49 (lv_at hl 2 rfl) ?_
    obtain ⟨r_7, hc_8, hf⟩ := pcl_e hf
    refine m_callS2 (As := [.int x5_4]) (rest := []) ⟨hx, hb, hml, hown, hts⟩ hX (ct_X12_isDigit l D cA x5_4 r_7 hc_8) (va_cwS 1 hts gX12_calendar_X12_isDigit rfl rfl rfl (by decide +kernel) ⟨Nat.le_of_ble_eq_true rfl, Nat.le_of_ble_eq_true rfl⟩) hP hD hS hA [] [0, 1, 2, 3] 4 (by decide) rfl rfl (WS' := (w_X12_calendar a0 q_text q_months q_years q_depths q_tune q_far q_books q_told q_ring q_woods q_ends q_wood q_sheets q_marsh q_oldest q_youngest q_knowns q_known q_weight q_chance q_digs q_draft q_isKept cA s_trace s_typed s_earliest s_latest s_firstYear s_rings s_text s_months s_years)) (WR := [(a0, .inr (12, [.long s_trace, .ref q_text, .int s_typed, .ref q_depths, .ref q_tune, .ref q_far, .ref q_books, .ref q_told, .int s_earliest, .int s_latest, .ref q_years, .ref q_months, .int s_firstYear, .int s_rings, .ref q_ring, .ref q_woods, .ref q_ends, .ref q_wood, .ref q_sheets, .ref q_marsh, .ref q_oldest, .ref q_youngest, .ref q_knowns, .ref q_known, .ref q_weight, .ref q_chance, .ref q_digs, .ref q_draft, .ref q_isKept])), (q_text, .inl (cA 0, 400, .inl s_text)), (q_months, .inl (cA 1, 224, .inl s_months)), (q_years, .inl (cA 1, 2, .inl s_years))]) rfl rfl rfl rfl (by decide) (by decide) rfl hl.1 rfl (st' := [.int r_7]) rfl (Nat.le_of_ble_eq_true rfl) ⟨Nat.zero_le _, Nat.zero_le _⟩ dX12_calendar_51 (fun H locs hP hD hS => ?_)
    refine lv_if_eq (tgt := 65) hx hb dX12_calendar_54 (by decide) (fun c_9 => ?_) (fun c_9 => ?_)
    · have hf := pbr_t c_9 hf
      refine lv_iconst (v := (0 : Int32)) hx hb dX12_calendar_65 (by decide) ?_
      refine lv_istore (lv' := [(7, .int (0 : Int32)), (1, .int x1_5), (6, .int x1), (5, .int x5_4), (0, .ref a0), (2, .int x2), (3, .int x3), (4, .int x4)]) hx hb dX12_calendar_66 hl (by decide) rfl (fun ls hl => ?_)
      exact k_X12_calendar_68 ⟨hx, hb, hml, hown, hts, hr, hlocks, hX⟩ hA ih FU x1_5 x2 x3 x4 x5_4 x1 (0 : Int32) s_typed s_months s_years hf _ _ hP hD hS ls (lv_sub hl [4, 1, 5, 6, 7, 3, 2, 0] rfl)
    have hf := pbr_f c_9 hf
    refine lv_iload hx hb dX12_calendar_57 (lv_at hl 2 rfl) ?_
    refine lv_bipush (v := (48 : Int32)) hx hb dX12_calendar_59 (by decide) ?_
    refine lv_isub hx hb dX12_calendar_61 ?_
    refine lv_goto (tgt := 66) hx hb dX12_calendar_62 (by decide) ?_
    refine lv_topi (fun x7_10 ex7_10 => ?_)
    have hf := plt_e ex7_10 hf
    refine lv_istore (lv' := [(7, .int x7_10), (1, .int x1_5), (6, .int x1), (5, .int x5_4), (0, .ref a0), (2, .int x2), (3, .int x3), (4, .int x4)]) hx hb dX12_calendar_66 hl (by decide) rfl (fun ls hl => ?_)
    exact k_X12_calendar_68 ⟨hx, hb, hml, hown, hts, hr, hlocks, hX⟩ hA ih FU x1_5 x2 x3 x4 x5_4 x1 x7_10 s_typed s_months s_years hf _ _ hP hD hS ls (lv_sub hl [4, 1, 5, 6, 7, 3, 2, 0] rfl)

def f_X12_calendar (s_typed : Int32) (s_text : Nat → Int32) (s_months : Nat → Int32) (s_years : Nat → Int32) : Option ((Int32) × (Int32) × (Nat → Int32) × (Nat → Int32)) :=
  f_X12_calendar_10 s_text FU (0 : Int32) (-9 : Int32) (0 : Int32) (0 : Int32) s_typed s_months s_years

set_option maxRecDepth 100000 in
set_option maxHeartbeats 4000000 in
theorem ct_X12_calendar (l : Launch) (D : va_G) (cA : Nat → ClassId) (a0 : Nat) (q_text : Nat) (q_months : Nat) (q_years : Nat) (q_depths : Nat) (q_tune : Nat) (q_far : Nat) (q_books : Nat) (q_told : Nat) (q_ring : Nat) (q_woods : Nat) (q_ends : Nat) (q_wood : Nat) (q_sheets : Nat) (q_marsh : Nat) (q_oldest : Nat) (q_youngest : Nat) (q_knowns : Nat) (q_known : Nat) (q_weight : Nat) (q_chance : Nat) (q_digs : Nat) (q_draft : Nat) (q_isKept : Nat) (s_trace : Int64) (s_typed : Int32) (s_earliest : Int32) (s_latest : Int32) (s_firstYear : Int32) (s_rings : Int32) (s_text : Nat → Int32) (s_months : Nat → Int32) (s_years : Nat → Int32) (o_r : Int32) (o_typed : Int32) (o_months : Nat → Int32) (o_years : Nat → Int32) (hf : f_X12_calendar s_typed s_text s_months s_years = some (o_r, o_typed, o_months, o_years)) : CT l yX12_calendar wsX12_calendar rm_X12_calendar D cA [.ref a0] (w_X12_calendar a0 q_text q_months q_years q_depths q_tune q_far q_books q_told q_ring q_woods q_ends q_wood q_sheets q_marsh q_oldest q_youngest q_knowns q_known q_weight q_chance q_digs q_draft q_isKept cA s_trace s_typed s_earliest s_latest s_firstYear s_rings s_text s_months s_years) (w_X12_calendar a0 q_text q_months q_years q_depths q_tune q_far q_books q_told q_ring q_woods q_ends q_wood q_sheets q_marsh q_oldest q_youngest q_knowns q_known q_weight q_chance q_digs q_draft q_isKept cA s_trace o_typed s_earliest s_latest s_firstYear s_rings s_text o_months o_years) (some (.int o_r)) := by
  refine CT.ofW (cc := cX12_calendar) (maxL := 10) (ret := (some .int)) (by decide +kernel) rfl (Nat.le_of_ble_eq_true rfl) ?_
  intro p e s m below meth c A C0 hA hP hD ls hl
  have C0 : MX p s m [.ref a0].toArray meth c cX12_calendar 10 wsX12_calendar RX12 (some .int) D cA := C0
  have hl : lv_has ls 10 [(0, .ref a0)] := hl
  obtain ⟨hx, hb, hml, hown, hts, hr, hlocks, hX⟩ := id C0
  have hK := hX.1
  have hN := hX.2
  have hS : va_S A s.heap s.heap [] := va_S.rf
  unfold f_X12_calendar at hf
  refine lv_iconst (v := (0 : Int32)) hx hb dX12_calendar_0 (by decide) ?_
  refine lv_istore_n (lv' := [(1, .int (0 : Int32)), (0, .ref a0)]) hx hb dX12_calendar_1 rfl hl (by decide) rfl (fun ls hl => ?_)
  refine lv_bipush (v := (-9 : Int32)) hx hb dX12_calendar_2 (by decide) ?_
  refine lv_istore_n (lv' := [(2, .int (-9 : Int32)), (1, .int (0 : Int32)), (0, .ref a0)]) hx hb dX12_calendar_4 rfl hl (by decide) rfl (fun ls hl => ?_)
  refine lv_iconst (v := (0 : Int32)) hx hb dX12_calendar_5 (by decide) ?_
  refine lv_istore_n (lv' := [(3, .int (0 : Int32)), (2, .int (-9 : Int32)), (1, .int (0 : Int32)), (0, .ref a0)]) hx hb dX12_calendar_6 rfl hl (by decide) rfl (fun ls hl => ?_)
  refine lv_iconst (v := (0 : Int32)) hx hb dX12_calendar_7 (by decide) ?_
  refine lv_istore (lv' := [(4, .int (0 : Int32)), (3, .int (0 : Int32)), (2, .int (-9 : Int32)), (1, .int (0 : Int32)), (0, .ref a0)]) hx hb dX12_calendar_8 hl (by decide) rfl (fun ls hl => ?_)
  exact k_X12_calendar_10 C0 hA FU (0 : Int32) (-9 : Int32) (0 : Int32) (0 : Int32) s_typed s_months s_years hf _ _ hP hD hS ls (lv_sub hl [4, 3, 2, 1, 0] rfl)
