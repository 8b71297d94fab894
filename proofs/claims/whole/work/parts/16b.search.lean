/-! ===== OrphanWave$Search.comesToAll(I)Z ===== -/
abbrev rm_X5_comesToAll : Room := { frames := 0, cells := 0, slots := 0, locals := 0 }
abbrev wx_X5_comesToAll (a0 : Nat) (q_books : Nat) (q_times : Nat) (q_ocean : Nat) (q_books_cells : Nat) (q_books_froms : Nat) (q_books_tos : Nat) (q_books_lows : Nat) (q_books_highs : Nat) (r_times : Nat → Nat) (cA : Nat → ClassId) (s_books_count : Int32) (s_times : Nat → Nat → Int32) : va_W := [(a0, .inr (5, [.ref q_ocean, .ref q_books, .ref q_times])), (q_books, .inr (0, [.ref q_books_cells, .ref q_books_froms, .ref q_books_tos, .ref q_books_lows, .ref q_books_highs, .int s_books_count])), (q_times, .inl (cA 5, 6, .inr (.inr (.inr (.inr (gro 6 r_times))))))]
abbrev w_X5_comesToAll (a0 : Nat) (q_books : Nat) (q_times : Nat) (q_ocean : Nat) (q_books_cells : Nat) (q_books_froms : Nat) (q_books_tos : Nat) (q_books_lows : Nat) (q_books_highs : Nat) (r_times : Nat → Nat) (cA : Nat → ClassId) (s_books_count : Int32) (s_times : Nat → Nat → Int32) : va_W := [(a0, .inr (5, [.ref q_ocean, .ref q_books, .ref q_times])), (q_books, .inr (0, [.ref q_books_cells, .ref q_books_froms, .ref q_books_tos, .ref q_books_lows, .ref q_books_highs, .int s_books_count])), (q_times, .inl (cA 5, 6, .inr (.inr (.inr (.inr (gro 6 r_times))))))] ++ grw 6 r_times (cA 1) 48 s_times
theorem hn_X5_comesToAll_X5 : ∀ w ∈ u_ws RX5 TX5 3, w ∈ wsX5_comesToAll := by decide +kernel
theorem hn_X5_comesToAll_X0 : ∀ w ∈ u_ws RX0 TX0 6, w ∈ wsX5_comesToAll := by decide +kernel
theorem hw_X5_comesToAll_f20 : Cond.fieldLink RX5 20 "OrphanWave$Search" "books" "LOrphanWave$Books;" ∈ wsX5_comesToAll := by decide +kernel
theorem hw_X5_comesToAll_f11 : Cond.fieldLink RX5 11 "OrphanWave$Search" "times" "[[I" ∈ wsX5_comesToAll := by decide +kernel

def f_X5_comesToAll_2 (s_books_count : Int32) (s_times : Nat → Nat → Int32) (x1 : Int32) : Nat → (Int32) → Option ((Int32))
  | 0, _ => none
  | k + 1, x2 =>
    pbr (s_books_count ≤ x2)
      (some ((1 : Int32)))
      (pgd (pin x2 6) (
      pgd (pin x1 48) (
      pbr ((s_times x2.toNatClampNeg x1.toNatClampNeg) = (-9 : Int32))
        (some ((0 : Int32)))
        (plt (x2 + (1 : Int32) : Int32) (fun x2_5 => (
        (f_X5_comesToAll_2 s_books_count s_times x1 k) x2_5))))))

set_option maxRecDepth 100000 in
set_option maxHeartbeats 4000000 in
theorem k_X5_comesToAll_2 {p : Program} {l : Launch} {e : Env} {s : State} {m : MethodId} {args : Array Value} {below : List Frame} {meth : Method} {c : Code} {A : Nat → Prop} {D : va_G} {cA : Nat → ClassId} (C0 : MX p s m args meth c cX5_comesToAll 3 wsX5_comesToAll RX5 (some .boolean) D cA) (hA : ∀ q, s.heap.size ≤ q → A q) {a0 : Nat} {q_books : Nat} {q_times : Nat} {q_ocean : Nat} {q_books_cells : Nat} {q_books_froms : Nat} {q_books_tos : Nat} {q_books_lows : Nat} {q_books_highs : Nat} {r_times : Nat → Nat} {s_books_count : Int32} {s_times : Nat → Nat → Int32} {x1 : Int32} {o_r : Int32} : ∀ (k : Nat) (x2 : Int32), f_X5_comesToAll_2 s_books_count s_times x1 k x2 = some o_r → ∀ (H : Heap) (locs : List Loc), va_P D vwCl (w_X5_comesToAll a0 q_books q_times q_ocean q_books_cells q_books_froms q_books_tos q_books_lows q_books_highs r_times cA s_books_count s_times) H → va_D A (w_X5_comesToAll a0 q_books q_times q_ocean q_books_cells q_books_froms q_books_tos q_books_lows q_books_highs r_times cA s_books_count s_times) → va_S A s.heap H locs → ∀ ls : Array Slot, lv_has ls 3 [(0, .ref a0), (1, .int x1), (2, .int x2)] → W p l e rm_X5_comesToAll s m args below meth c H locs 0 0 (MQ below (CQ D (some (.int o_r)) (w_X5_comesToAll a0 q_books q_times q_ocean q_books_cells q_books_froms q_books_tos q_books_lows q_books_highs r_times cA s_books_count s_times) A) args s 0 0 A) (F0 m 2 ls []) := by
  obtain ⟨hx, hb, hml, hown, hts, hr, hlocks, hX⟩ := C0
  have hK := hX.1
  have hN := hX.2
  intro k
  induction k with
  | zero =>
    intro x2 hf
    cases hf
  | succ k ih =>
    intro x2 hf H locs hP hD hS ls hl
    rw [f_X5_comesToAll_2] at hf
    refine lv_iload_n hx hb dX5_comesToAll_2 rfl (lv_at hl 2 rfl) ?_
    refine lv_aload_n hx hb dX5_comesToAll_3 rfl (lv_at hl 0 rfl) ?_
    refine va_get (D := D) (ci := 5) (v := .ref q_books) (C := RX5) (T := TX5) (N := 3) hx hb hts hn_X5_comesToAll_X5 hown hK hP 0 rfl rfl 1 (by decide) (hts _ hw_X5_comesToAll_f20) (fun _ h9 => h9) rfl dX5_comesToAll_4 ?_
    refine va_getN (D := D) (ci := 0) (v := .int s_books_count) (C := RX0) (T := TX0) (N := 6) hx hb hts hn_X5_comesToAll_X0 hown hK hP 1 rfl rfl 5 (by decide) (va_Nw.use rfl (hN _ nw_X5_24)) (fun _ h9 => h9) rfl dX5_comesToAll_7 ?_
    refine lv_icmp_ge (tgt := 34) hx hb dX5_comesToAll_10 (by decide) (fun c_1 => ?_) (fun c_1 => ?_)
    · have hf := pbr_t c_1 hf
      refine lv_iconst (v := (1 : Int32)) hx hb dX5_comesToAll_34 (by decide) ?_
      obtain rfl := pe1 hf
      exact m_zret (by decide) hx hb hr hlocks hP hS dX5_comesToAll_35
    have hf := pbr_f c_1 hf
    refine lv_aload_n hx hb dX5_comesToAll_13 rfl (lv_at hl 0 rfl) ?_
    refine va_get (D := D) (ci := 5) (v := .ref q_times) (C := RX5) (T := TX5) (N := 3) hx hb hts hn_X5_comesToAll_X5 hown hK hP 0 rfl rfl 2 (by decide) (hts _ hw_X5_comesToAll_f11) (fun _ h9 => h9) rfl dX5_comesToAll_14 ?_
    refine lv_iload_n hx hb dX5_comesToAll_17 rfl (lv_at hl 2 rfl) ?_
    obtain ⟨g_2, hf⟩ := pgd_e hf
    refine m_aald hx hb hK hP 2 rfl g_2 dX5_comesToAll_18 ?_
    refine lv_iload_n hx hb dX5_comesToAll_19 rfl (lv_at hl 1 rfl) ?_
    obtain ⟨g_3, hf⟩ := pgd_e hf
    refine m_rald (i := x2) hx hb hK hP rfl g_2 g_3 dX5_comesToAll_20 ?_
    refine lv_bipush (v := (-9 : Int32)) hx hb dX5_comesToAll_21 (by decide) ?_
    refine lv_icmp_ne (tgt := 28) hx hb dX5_comesToAll_23 (by decide) (fun c_4 => ?_) (fun c_4 => ?_)
    · have hf := pbr_f c_4 hf
      obtain ⟨x2_5, ex2_5⟩ : ∃ z : Int32, z = x2 + (1 : Int32) := ⟨_, rfl⟩
      have hf := plt_e ex2_5 hf
      refine lv_iinc (v := x2_5) (lv' := [(2, .int x2_5), (0, .ref a0), (1, .int x1)]) hx hb dX5_comesToAll_28 hl (k := 2) rfl (by rw [ex2_5]; rfl) (by decide) rfl (fun ls hl => ?_)
      refine lv_goto (tgt := 2) hx hb dX5_comesToAll_31 (by decide) ?_
      exact ih x2_5 hf _ _ hP hD hS ls (lv_sub hl [1, 2, 0] rfl)
    have hf := pbr_t c_4 hf
    refine lv_iconst (v := (0 : Int32)) hx hb dX5_comesToAll_26 (by decide) ?_
    obtain rfl := pe1 hf
    exact m_zret (by decide) hx hb hr hlocks hP hS dX5_comesToAll_27

def f_X5_comesToAll (x1 : Int32) (s_books_count : Int32) (s_times : Nat → Nat → Int32) : Option ((Int32)) :=
  f_X5_comesToAll_2 s_books_count s_times x1 FU (0 : Int32)

set_option maxRecDepth 100000 in
set_option maxHeartbeats 4000000 in
theorem ct_X5_comesToAll (l : Launch) (D : va_G) (cA : Nat → ClassId) (x1 : Int32) (a0 : Nat) (q_books : Nat) (q_times : Nat) (q_ocean : Nat) (q_books_cells : Nat) (q_books_froms : Nat) (q_books_tos : Nat) (q_books_lows : Nat) (q_books_highs : Nat) (r_times : Nat → Nat) (s_books_count : Int32) (s_times : Nat → Nat → Int32) (o_r : Int32) (hf : f_X5_comesToAll x1 s_books_count s_times = some o_r) : CT l yX5_comesToAll wsX5_comesToAll rm_X5_comesToAll D cA [.ref a0, .int x1] (w_X5_comesToAll a0 q_books q_times q_ocean q_books_cells q_books_froms q_books_tos q_books_lows q_books_highs r_times cA s_books_count s_times) (w_X5_comesToAll a0 q_books q_times q_ocean q_books_cells q_books_froms q_books_tos q_books_lows q_books_highs r_times cA s_books_count s_times) (some (.int o_r)) := by
  refine CT.ofW (cc := cX5_comesToAll) (maxL := 3) (ret := (some .boolean)) (by decide +kernel) rfl (Nat.le_of_ble_eq_true rfl) ?_
  intro p e s m below meth c A C0 hA hP hD ls hl
  have C0 : MX p s m [.ref a0, .int x1].toArray meth c cX5_comesToAll 3 wsX5_comesToAll RX5 (some .boolean) D cA := C0
  have hl : lv_has ls 3 [(0, .ref a0), (1, .int x1)] := hl
  obtain ⟨hx, hb, hml, hown, hts, hr, hlocks, hX⟩ := id C0
  have hK := hX.1
  have hN := hX.2
  have hS : va_S A s.heap s.heap [] := va_S.rf
  unfold f_X5_comesToAll at hf
  refine lv_iconst (v := (0 : Int32)) hx hb dX5_comesToAll_0 (by decide) ?_
  refine lv_istore_n (lv' := [(2, .int (0 : Int32)), (0, .ref a0), (1, .int x1)]) hx hb dX5_comesToAll_1 rfl hl (by decide) rfl (fun ls hl => ?_)
  exact k_X5_comesToAll_2 C0 hA FU (0 : Int32) hf _ _ hP hD hS ls (lv_sub hl [1, 2, 0] rfl)

/-! ===== OrphanWave$Search.beginsByHours(I)I ===== -/
abbrev rm_X5_beginsByHours : Room := { frames := 2, cells := 0, slots := 0, locals := 36 }
abbrev wx_X5_beginsByHours (a0 : Nat) (q_books : Nat) (q_books_tos : Nat) (q_books_froms : Nat) (q_times : Nat) (q_ocean : Nat) (q_books_cells : Nat) (q_books_lows : Nat) (q_books_highs : Nat) (r_times : Nat → Nat) (cA : Nat → ClassId) (s_books_count : Int32) (s_books_tos : Nat → Int32) (s_books_froms : Nat → Int32) (s_times : Nat → Nat → Int32) : va_W := [(a0, .inr (5, [.ref q_ocean, .ref q_books, .ref q_times])), (q_books, .inr (0, [.ref q_books_cells, .ref q_books_froms, .ref q_books_tos, .ref q_books_lows, .ref q_books_highs, .int s_books_count])), (q_books_tos, .inl (cA 1, 6, .inl s_books_tos)), (q_books_froms, .inl (cA 1, 6, .inl s_books_froms)), (q_times, .inl (cA 5, 6, .inr (.inr (.inr (.inr (gro 6 r_times))))))]
abbrev w_X5_beginsByHours (a0 : Nat) (q_books : Nat) (q_books_tos : Nat) (q_books_froms : Nat) (q_times : Nat) (q_ocean : Nat) (q_books_cells : Nat) (q_books_lows : Nat) (q_books_highs : Nat) (r_times : Nat → Nat) (cA : Nat → ClassId) (s_books_count : Int32) (s_books_tos : Nat → Int32) (s_books_froms : Nat → Int32) (s_times : Nat → Nat → Int32) : va_W := [(a0, .inr (5, [.ref q_ocean, .ref q_books, .ref q_times])), (q_books, .inr (0, [.ref q_books_cells, .ref q_books_froms, .ref q_books_tos, .ref q_books_lows, .ref q_books_highs, .int s_books_count])), (q_books_tos, .inl (cA 1, 6, .inl s_books_tos)), (q_books_froms, .inl (cA 1, 6, .inl s_books_froms)), (q_times, .inl (cA 5, 6, .inr (.inr (.inr (.inr (gro 6 r_times))))))] ++ grw 6 r_times (cA 1) 48 s_times
theorem hw_X5_beginsByHours_m43 : Cond.methodLink RX5 43 Lib.Math.max.name ∈ wsX5_beginsByHours := by decide +kernel
theorem hw_X5_beginsByHours_smax : Cond.static Lib.Math.max.name ∈ wsX5_beginsByHours := by decide +kernel
theorem hw_X5_beginsByHours_imath : Cond.initialized "java/lang/Math" ∈ wsX5_beginsByHours := by decide +kernel
theorem hw_X5_beginsByHours_kmax : Cond.code Lib.Math.max.name Lib.Math.max.code 2 (some .int) ∈ wsX5_beginsByHours := by decide +kernel

def f_X5_beginsByHours (x1 : Int32) (s_books_count : Int32) (s_books_tos : Nat → Int32) (s_books_froms : Nat → Int32) (s_times : Nat → Nat → Int32) : Option ((Int32)) :=
  pcl (f_X5_comesToAll x1 s_books_count s_times) (fun r_1 => (
  pbr (r_1 = 0)
    (some ((0 : Int32)))
    (pcl (f_X5_latestBegin x1 s_books_count s_books_tos s_times) (fun r_4 => (
    pcl (f_X5_earliestBegin x1 s_books_count s_books_froms s_times) (fun r_6 => (
    some ((if (0 : Int32) < ((r_4 - r_6) + (1 : Int32)) then ((r_4 - r_6) + (1 : Int32)) else (0 : Int32))))))))))

set_option maxRecDepth 100000 in
set_option maxHeartbeats 4000000 in
theorem ct_X5_beginsByHours (l : Launch) (D : va_G) (cA : Nat → ClassId) (x1 : Int32) (a0 : Nat) (q_books : Nat) (q_books_tos : Nat) (q_books_froms : Nat) (q_times : Nat) (q_ocean : Nat) (q_books_cells : Nat) (q_books_lows : Nat) (q_books_highs : Nat) (r_times : Nat → Nat) (s_books_count : Int32) (s_books_tos : Nat → Int32) (s_books_froms : Nat → Int32) (s_times : Nat → Nat → Int32) (o_r : Int32) (hf : f_X5_beginsByHours x1 s_books_count s_books_tos s_books_froms s_times = some o_r) : CT l yX5_beginsByHours wsX5_beginsByHours rm_X5_beginsByHours D cA [.ref a0, .int x1] (w_X5_beginsByHours a0 q_books q_books_tos q_books_froms q_times q_ocean q_books_cells q_books_lows q_books_highs r_times cA s_books_count s_books_tos s_books_froms s_times) (w_X5_beginsByHours a0 q_books q_books_tos q_books_froms q_times q_ocean q_books_cells q_books_lows q_books_highs r_times cA s_books_count s_books_tos s_books_froms s_times) (some (.int o_r)) := by
  refine CT.ofW (cc := cX5_beginsByHours) (maxL := 2) (ret := (some .int)) (by decide +kernel) rfl (Nat.le_of_ble_eq_true rfl) ?_
  intro p e s m below meth c A C0 hA hP hD ls hl
  have C0 : MX p s m [.ref a0, .int x1].toArray meth c cX5_beginsByHours 2 wsX5_beginsByHours RX5 (some .int) D cA := C0
  have hl : lv_has ls 2 [(0, .ref a0), (1, .int x1)] := hl
  obtain ⟨hx, hb, hml, hown, hts, hr, hlocks, hX⟩ := id C0
  have hK := hX.1
  have hN := hX.2
  have hS : va_S A s.heap s.heap [] := va_S.rf
  unfold f_X5_beginsByHours at hf
  refine lv_aload_n hx hb dX5_beginsByHours_0 rfl (lv_at hl 0 rfl) ?_
  refine lv_iload_n hx hb dX5_beginsByHours_1 rfl (lv_at hl 1 rfl) ?_
  obtain ⟨r_1, hc_2, hf⟩ := pcl_e hf
  refine m_callV2 (As := [.int x1]) (rest := []) ⟨hx, hb, hml, hown, hts⟩ hX (ct_X5_comesToAll l D cA x1 a0 q_books q_times q_ocean q_books_cells q_books_froms q_books_tos q_books_lows q_books_highs r_times s_books_count s_times r_1 hc_2) (cwV 1 hts gX5_beginsByHours_X5_comesToAll rfl rfl rfl (by decide +kernel) ⟨Nat.le_of_ble_eq_true rfl, Nat.le_of_ble_eq_true rfl⟩) hP hD hS hA [0, 1, 4, 5, 6, 7, 8, 9, 10] [2, 3] 11 (by decide) rfl rfl (WS' := (w_X5_beginsByHours a0 q_books q_books_tos q_books_froms q_times q_ocean q_books_cells q_books_lows q_books_highs r_times cA s_books_count s_books_tos s_books_froms s_times)) (WR := [(q_books_tos, .inl (cA 1, 6, .inl s_books_tos)), (q_books_froms, .inl (cA 1, 6, .inl s_books_froms))]) rfl rfl rfl rfl (by decide) (by decide) 0 5 rfl rfl rfl hl.1 rfl (st' := [.int r_1]) rfl (Nat.le_of_ble_eq_true rfl) ⟨Nat.zero_le _, Nat.zero_le _⟩ dX5_beginsByHours_2 (fun H locs hP hD hS => ?_)
  refine lv_if_ne (tgt := 10) hx hb dX5_beginsByHours_5 (by decide) (fun c_3 => ?_) (fun c_3 => ?_)
  · have hf := pbr_f c_3 hf
    refine lv_iconst (v := (0 : Int32)) hx hb dX5_beginsByHours_10 (by decide) ?_
    refine lv_aload_n hx hb dX5_beginsByHours_11 rfl (lv_at hl 0 rfl) ?_
    refine lv_iload_n hx hb dX5_beginsByHours_12 rfl (lv_at hl 1 rfl) ?_
    obtain ⟨r_4, hc_5, hf⟩ := pcl_e hf
    refine m_callV2 (As := [.int x1]) (rest := [.int (0 : Int32)]) ⟨hx, hb, hml, hown, hts⟩ hX (ct_X5_latestBegin l D cA x1 a0 q_books q_books_tos q_times q_ocean q_books_cells q_books_froms q_books_lows q_books_highs r_times s_books_count s_books_tos s_times r_4 hc_5) (cwV 1 hts gX5_beginsByHours_X5_latestBegin rfl rfl rfl (by decide +kernel) ⟨Nat.le_of_ble_eq_true rfl, Nat.le_of_ble_eq_true rfl⟩) hP hD hS hA [0, 1, 2, 4, 5, 6, 7, 8, 9, 10] [3] 11 (by decide) rfl rfl (WS' := (w_X5_beginsByHours a0 q_books q_books_tos q_books_froms q_times q_ocean q_books_cells q_books_lows q_books_highs r_times cA s_books_count s_books_tos s_books_froms s_times)) (WR := [(q_books_froms, .inl (cA 1, 6, .inl s_books_froms))]) rfl rfl rfl rfl (by decide) (by decide) 0 5 rfl rfl rfl hl.1 rfl (st' := [.int r_4, .int (0 : Int32)]) rfl (Nat.le_of_ble_eq_true rfl) ⟨Nat.zero_le _, Nat.zero_le _⟩ dX5_beginsByHours_13 (fun H locs hP hD hS => ?_)
    refine lv_aload_n hx hb dX5_beginsByHours_16 rfl (lv_at hl 0 rfl) ?_
    refine lv_iload_n hx hb dX5_beginsByHours_17 rfl (lv_at hl 1 rfl) ?_
    obtain ⟨r_6, hc_7, hf⟩ := pcl_e hf
    refine m_callV2 (As := [.int x1]) (rest := [.int r_4, .int (0 : Int32)]) ⟨hx, hb, hml, hown, hts⟩ hX (ct_X5_earliestBegin l D cA x1 a0 q_books q_books_froms q_times q_ocean q_books_cells q_books_tos q_books_lows q_books_highs r_times s_books_count s_books_froms s_times r_6 hc_7) (cwV 1 hts gX5_beginsByHours_X5_earliestBegin rfl rfl rfl (by decide +kernel) ⟨Nat.le_of_ble_eq_true rfl, Nat.le_of_ble_eq_true rfl⟩) hP hD hS hA [0, 1, 3, 4, 5, 6, 7, 8, 9, 10] [2] 11 (by decide) rfl rfl (WS' := (w_X5_beginsByHours a0 q_books q_books_tos q_books_froms q_times q_ocean q_books_cells q_books_lows q_books_highs r_times cA s_books_count s_books_tos s_books_froms s_times)) (WR := [(q_books_tos, .inl (cA 1, 6, .inl s_books_tos))]) rfl rfl rfl rfl (by decide) (by decide) 0 5 rfl rfl rfl hl.1 rfl (st' := [.int r_6, .int r_4, .int (0 : Int32)]) rfl (Nat.le_of_ble_eq_true rfl) ⟨Nat.zero_le _, Nat.zero_le _⟩ dX5_beginsByHours_18 (fun H locs hP hD hS => ?_)
    refine lv_isub hx hb dX5_beginsByHours_21 ?_
    refine lv_iconst (v := (1 : Int32)) hx hb dX5_beginsByHours_22 (by decide) ?_
    refine lv_iadd hx hb dX5_beginsByHours_23 ?_
    refine va_mmax hx hb (hml.trans hl.1.symm) hown (hts _ hw_X5_beginsByHours_m43) (hts _ hw_X5_beginsByHours_smax) (hts _ hw_X5_beginsByHours_imath) (hts _ hw_X5_beginsByHours_kmax) (Nat.le_of_ble_eq_true rfl) (Nat.le_of_ble_eq_true rfl) (Nat.zero_le _) (Nat.zero_le _) dX5_beginsByHours_24 ?_
    obtain rfl := pe1 hf
    exact m_iret hx hb hr hlocks hP hS dX5_beginsByHours_27
  have hf := pbr_t c_3 hf
  refine lv_iconst (v := (0 : Int32)) hx hb dX5_beginsByHours_8 (by decide) ?_
  obtain rfl := pe1 hf
  exact m_iret hx hb hr hlocks hP hS dX5_beginsByHours_9

/-! ===== OrphanWave$Search.beginsOf(II)I ===== -/
abbrev rm_X5_beginsOf : Room := { frames := 3, cells := 0, slots := 0, locals := 57 }
abbrev wx_X5_beginsOf (a0 : Nat) (q_books : Nat) (q_ocean : Nat) (q_books_cells : Nat) (q_ocean_depths : Nat) (q_books_lows : Nat) (q_books_highs : Nat) (q_books_tos : Nat) (q_books_froms : Nat) (q_times : Nat) (q_ocean_figures : Nat) (q_ocean_times : Nat) (r_times : Nat → Nat) (cA : Nat → ClassId) (s_books_count : Int32) (s_ocean_pace : Int32) (s_ocean_fade : Int32) (s_books_cells : Nat → Int32) (s_ocean_depths : Nat → Int32) (s_books_lows : Nat → Int32) (s_books_highs : Nat → Int32) (s_books_tos : Nat → Int32) (s_books_froms : Nat → Int32) (s_times : Nat → Nat → Int32) : va_W := [(a0, .inr (5, [.ref q_ocean, .ref q_books, .ref q_times])), (q_books, .inr (0, [.ref q_books_cells, .ref q_books_froms, .ref q_books_tos, .ref q_books_lows, .ref q_books_highs, .int s_books_count])), (q_ocean, .inr (4, [.ref q_ocean_depths, .ref q_ocean_figures, .ref q_ocean_times, .int s_ocean_pace, .int s_ocean_fade])), (q_books_cells, .inl (cA 1, 6, .inl s_books_cells)), (q_ocean_depths, .inl (cA 1, 48, .inl s_ocean_depths)), (q_books_lows, .inl (cA 1, 6, .inl s_books_lows)), (q_books_highs, .inl (cA 1, 6, .inl s_books_highs)), (q_books_tos, .inl (cA 1, 6, .inl s_books_tos)), (q_books_froms, .inl (cA 1, 6, .inl s_books_froms)), (q_times, .inl (cA 5, 6, .inr (.inr (.inr (.inr (gro 6 r_times))))))]
abbrev w_X5_beginsOf (a0 : Nat) (q_books : Nat) (q_ocean : Nat) (q_books_cells : Nat) (q_ocean_depths : Nat) (q_books_lows : Nat) (q_books_highs : Nat) (q_books_tos : Nat) (q_books_froms : Nat) (q_times : Nat) (q_ocean_figures : Nat) (q_ocean_times : Nat) (r_times : Nat → Nat) (cA : Nat → ClassId) (s_books_count : Int32) (s_ocean_pace : Int32) (s_ocean_fade : Int32) (s_books_cells : Nat → Int32) (s_ocean_depths : Nat → Int32) (s_books_lows : Nat → Int32) (s_books_highs : Nat → Int32) (s_books_tos : Nat → Int32) (s_books_froms : Nat → Int32) (s_times : Nat → Nat → Int32) : va_W := [(a0, .inr (5, [.ref q_ocean, .ref q_books, .ref q_times])), (q_books, .inr (0, [.ref q_books_cells, .ref q_books_froms, .ref q_books_tos, .ref q_books_lows, .ref q_books_highs, .int s_books_count])), (q_ocean, .inr (4, [.ref q_ocean_depths, .ref q_ocean_figures, .ref q_ocean_times, .int s_ocean_pace, .int s_ocean_fade])), (q_books_cells, .inl (cA 1, 6, .inl s_books_cells)), (q_ocean_depths, .inl (cA 1, 48, .inl s_ocean_depths)), (q_books_lows, .inl (cA 1, 6, .inl s_books_lows)), (q_books_highs, .inl (cA 1, 6, .inl s_books_highs)), (q_books_tos, .inl (cA 1, 6, .inl s_books_tos)), (q_books_froms, .inl (cA 1, 6, .inl s_books_froms)), (q_times, .inl (cA 5, 6, .inr (.inr (.inr (.inr (gro 6 r_times))))))] ++ grw 6 r_times (cA 1) 48 s_times

def f_X5_beginsOf (x1 : Int32) (x2 : Int32) (s_books_count : Int32) (s_ocean_fade : Int32) (s_books_cells : Nat → Int32) (s_ocean_depths : Nat → Int32) (s_books_lows : Nat → Int32) (s_books_highs : Nat → Int32) (s_books_tos : Nat → Int32) (s_books_froms : Nat → Int32) (s_times : Nat → Nat → Int32) : Option ((Int32)) :=
  pcl (f_X5_heightsFit x1 x2 s_books_count s_books_cells s_ocean_fade s_ocean_depths s_books_lows s_books_highs s_times) (fun r_1 => (
  pbr (r_1 = 0)
    (some ((0 : Int32)))
    (pcl (f_X5_beginsByHours x1 s_books_count s_books_tos s_books_froms s_times) (fun r_4 => (
    some (r_4))))))

set_option maxRecDepth 100000 in
set_option maxHeartbeats 4000000 in
theorem ct_X5_beginsOf (l : Launch) (D : va_G) (cA : Nat → ClassId) (x1 : Int32) (x2 : Int32) (a0 : Nat) (q_books : Nat) (q_ocean : Nat) (q_books_cells : Nat) (q_ocean_depths : Nat) (q_books_lows : Nat) (q_books_highs : Nat) (q_books_tos : Nat) (q_books_froms : Nat) (q_times : Nat) (q_ocean_figures : Nat) (q_ocean_times : Nat) (r_times : Nat → Nat) (s_books_count : Int32) (s_ocean_pace : Int32) (s_ocean_fade : Int32) (s_books_cells : Nat → Int32) (s_ocean_depths : Nat → Int32) (s_books_lows : Nat → Int32) (s_books_highs : Nat → Int32) (s_books_tos : Nat → Int32) (s_books_froms : Nat → Int32) (s_times : Nat → Nat → Int32) (o_r : Int32) (hf : f_X5_beginsOf x1 x2 s_books_count s_ocean_fade s_books_cells s_ocean_depths s_books_lows s_books_highs s_books_tos s_books_froms s_times = some o_r) : CT l yX5_beginsOf wsX5_beginsOf rm_X5_beginsOf D cA [.ref a0, .int x1, .int x2] (w_X5_beginsOf a0 q_books q_ocean q_books_cells q_ocean_depths q_books_lows q_books_highs q_books_tos q_books_froms q_times q_ocean_figures q_ocean_times r_times cA s_books_count s_ocean_pace s_ocean_fade s_books_cells s_ocean_depths s_books_lows s_books_highs s_books_tos s_books_froms s_times) (w_X5_beginsOf a0 q_books q_ocean q_books_cells q_ocean_depths q_books_lows q_books_highs q_books_tos q_books_froms q_times q_ocean_figures q_ocean_times r_times cA s_books_count s_ocean_pace s_ocean_fade s_books_cells s_ocean_depths s_books_lows s_books_highs s_books_tos s_books_froms s_times) (some (.int o_r)) := by
  refine CT.ofW (cc := cX5_beginsOf) (maxL := 3) (ret := (some .int)) (by decide +kernel) rfl (Nat.le_of_ble_eq_true rfl) ?_
  intro p e s m below meth c A C0 hA hP hD ls hl
  have C0 : MX p s m [.ref a0, .int x1, .int x2].toArray meth c cX5_beginsOf 3 wsX5_beginsOf RX5 (some .int) D cA := C0
  have hl : lv_has ls 3 [(0, .ref a0), (1, .int x1), (2, .int x2)] := hl
  obtain ⟨hx, hb, hml, hown, hts, hr, hlocks, hX⟩ := id C0
  have hK := hX.1
  have hN := hX.2
  have hS : va_S A s.heap s.heap [] := va_S.rf
  unfold f_X5_beginsOf at hf
  refine lv_aload_n hx hb dX5_beginsOf_0 rfl (lv_at hl 0 rfl) ?_
  refine lv_iload_n hx hb dX5_beginsOf_1 rfl (lv_at hl 1 rfl) ?_
  refine lv_iload_n hx hb dX5_beginsOf_2 rfl (lv_at hl 2 rfl) ?_
  obtain ⟨r_1, hc_2, hf⟩ := pcl_e hf
  refine m_callV2 (As := [.int x1, .int x2]) (rest := []) ⟨hx, hb, hml, hown, hts⟩ hX (ct_X5_heightsFit l D cA x1 x2 a0 q_books q_books_cells q_ocean q_ocean_depths q_books_lows q_books_highs q_times q_books_froms q_books_tos q_ocean_figures q_ocean_times r_times s_books_count s_books_cells s_ocean_pace s_ocean_fade s_ocean_depths s_books_lows s_books_highs s_times r_1 hc_2) (cwV 2 hts gX5_beginsOf_X5_heightsFit rfl rfl rfl (by decide +kernel) ⟨Nat.le_of_ble_eq_true rfl, Nat.le_of_ble_eq_true rfl⟩) hP hD hS hA [0, 1, 3, 2, 4, 5, 6, 9, 10, 11, 12, 13, 14, 15] [7, 8] 16 (by decide) rfl rfl (WS' := (w_X5_beginsOf a0 q_books q_ocean q_books_cells q_ocean_depths q_books_lows q_books_highs q_books_tos q_books_froms q_times q_ocean_figures q_ocean_times r_times cA s_books_count s_ocean_pace s_ocean_fade s_books_cells s_ocean_depths s_books_lows s_books_highs s_books_tos s_books_froms s_times)) (WR := [(q_books_tos, .inl (cA 1, 6, .inl s_books_tos)), (q_books_froms, .inl (cA 1, 6, .inl s_books_froms))]) rfl rfl rfl rfl (by decide) (by decide) 0 5 rfl rfl rfl hl.1 rfl (st' := [.int r_1]) rfl (Nat.le_of_ble_eq_true rfl) ⟨Nat.zero_le _, Nat.zero_le _⟩ dX5_beginsOf_3 (fun H locs hP hD hS => ?_)
  refine lv_if_eq (tgt := 17) hx hb dX5_beginsOf_6 (by decide) (fun c_3 => ?_) (fun c_3 => ?_)
  · have hf := pbr_t c_3 hf
    refine lv_iconst (v := (0 : Int32)) hx hb dX5_beginsOf_17 (by decide) ?_
    obtain rfl := pe1 hf
    exact m_iret hx hb hr hlocks hP hS dX5_beginsOf_18
  have hf := pbr_f c_3 hf
  refine lv_aload_n hx hb dX5_beginsOf_9 rfl (lv_at hl 0 rfl) ?_
  refine lv_iload_n hx hb dX5_beginsOf_10 rfl (lv_at hl 1 rfl) ?_
  obtain ⟨r_4, hc_5, hf⟩ := pcl_e hf
  refine m_callV2 (As := [.int x1]) (rest := []) ⟨hx, hb, hml, hown, hts⟩ hX (ct_X5_beginsByHours l D cA x1 a0 q_books q_books_tos q_books_froms q_times q_ocean q_books_cells q_books_lows q_books_highs r_times s_books_count s_books_tos s_books_froms s_times r_4 hc_5) (cwV 1 hts gX5_beginsOf_X5_beginsByHours rfl rfl rfl (by decide +kernel) ⟨Nat.le_of_ble_eq_true rfl, Nat.le_of_ble_eq_true rfl⟩) hP hD hS hA [0, 1, 7, 8, 9, 10, 11, 12, 13, 14, 15] [2, 3, 4, 5, 6] 16 (by decide) rfl rfl (WS' := (w_X5_beginsOf a0 q_books q_ocean q_books_cells q_ocean_depths q_books_lows q_books_highs q_books_tos q_books_froms q_times q_ocean_figures q_ocean_times r_times cA s_books_count s_ocean_pace s_ocean_fade s_books_cells s_ocean_depths s_books_lows s_books_highs s_books_tos s_books_froms s_times)) (WR := [(q_ocean, .inr (4, [.ref q_ocean_depths, .ref q_ocean_figures, .ref q_ocean_times, .int s_ocean_pace, .int s_ocean_fade])), (q_books_cells, .inl (cA 1, 6, .inl s_books_cells)), (q_ocean_depths, .inl (cA 1, 48, .inl s_ocean_depths)), (q_books_lows, .inl (cA 1, 6, .inl s_books_lows)), (q_books_highs, .inl (cA 1, 6, .inl s_books_highs))]) rfl rfl rfl rfl (by decide) (by decide) 0 5 rfl rfl rfl hl.1 rfl (st' := [.int r_4]) rfl (Nat.le_of_ble_eq_true rfl) ⟨Nat.zero_le _, Nat.zero_le _⟩ dX5_beginsOf_11 (fun H locs hP hD hS => ?_)
  refine lv_goto (tgt := 18) hx hb dX5_beginsOf_14 (by decide) ?_
  obtain rfl := pe1 hf
  exact m_iret hx hb hr hlocks hP hS dX5_beginsOf_18

/-! ===== OrphanWave$Search.waysOf(I)I ===== -/
abbrev rm_X5_waysOf : Room := { frames := 3, cells := 0, slots := 0, locals := 57 }
abbrev wx_X5_waysOf (a0 : Nat) (q_books : Nat) (q_books_tos : Nat) (q_books_froms : Nat) (q_ocean : Nat) (q_books_cells : Nat) (q_ocean_depths : Nat) (q_books_lows : Nat) (q_books_highs : Nat) (q_times : Nat) (q_ocean_figures : Nat) (q_ocean_times : Nat) (r_times : Nat → Nat) (cA : Nat → ClassId) (s_books_count : Int32) (s_books_tos : Nat → Int32) (s_books_froms : Nat → Int32) (s_ocean_pace : Int32) (s_ocean_fade : Int32) (s_books_cells : Nat → Int32) (s_ocean_depths : Nat → Int32) (s_books_lows : Nat → Int32) (s_books_highs : Nat → Int32) (s_times : Nat → Nat → Int32) : va_W := [(a0, .inr (5, [.ref q_ocean, .ref q_books, .ref q_times])), (q_books, .inr (0, [.ref q_books_cells, .ref q_books_froms, .ref q_books_tos, .ref q_books_lows, .ref q_books_highs, .int s_books_count])), (q_books_tos, .inl (cA 1, 6, .inl s_books_tos)), (q_books_froms, .inl (cA 1, 6, .inl s_books_froms)), (q_ocean, .inr (4, [.ref q_ocean_depths, .ref q_ocean_figures, .ref q_ocean_times, .int s_ocean_pace, .int s_ocean_fade])), (q_books_cells, .inl (cA 1, 6, .inl s_books_cells)), (q_ocean_depths, .inl (cA 1, 48, .inl s_ocean_depths)), (q_books_lows, .inl (cA 1, 6, .inl s_books_lows)), (q_books_highs, .inl (cA 1, 6, .inl s_books_highs)), (q_times, .inl (cA 5, 6, .inr (.inr (.inr (.inr (gro 6 r_times))))))]
abbrev w_X5_waysOf (a0 : Nat) (q_books : Nat) (q_books_tos : Nat) (q_books_froms : Nat) (q_ocean : Nat) (q_books_cells : Nat) (q_ocean_depths : Nat) (q_books_lows : Nat) (q_books_highs : Nat) (q_times : Nat) (q_ocean_figures : Nat) (q_ocean_times : Nat) (r_times : Nat → Nat) (cA : Nat → ClassId) (s_books_count : Int32) (s_books_tos : Nat → Int32) (s_books_froms : Nat → Int32) (s_ocean_pace : Int32) (s_ocean_fade : Int32) (s_books_cells : Nat → Int32) (s_ocean_depths : Nat → Int32) (s_books_lows : Nat → Int32) (s_books_highs : Nat → Int32) (s_times : Nat → Nat → Int32) : va_W := [(a0, .inr (5, [.ref q_ocean, .ref q_books, .ref q_times])), (q_books, .inr (0, [.ref q_books_cells, .ref q_books_froms, .ref q_books_tos, .ref q_books_lows, .ref q_books_highs, .int s_books_count])), (q_books_tos, .inl (cA 1, 6, .inl s_books_tos)), (q_books_froms, .inl (cA 1, 6, .inl s_books_froms)), (q_ocean, .inr (4, [.ref q_ocean_depths, .ref q_ocean_figures, .ref q_ocean_times, .int s_ocean_pace, .int s_ocean_fade])), (q_books_cells, .inl (cA 1, 6, .inl s_books_cells)), (q_ocean_depths, .inl (cA 1, 48, .inl s_ocean_depths)), (q_books_lows, .inl (cA 1, 6, .inl s_books_lows)), (q_books_highs, .inl (cA 1, 6, .inl s_books_highs)), (q_times, .inl (cA 5, 6, .inr (.inr (.inr (.inr (gro 6 r_times))))))] ++ grw 6 r_times (cA 1) 48 s_times

def f_X5_waysOf_17 (s_books_count : Int32) (s_books_tos : Nat → Int32) (s_books_froms : Nat → Int32) (s_ocean_fade : Int32) (s_books_cells : Nat → Int32) (s_ocean_depths : Nat → Int32) (s_books_lows : Nat → Int32) (s_books_highs : Nat → Int32) (s_times : Nat → Nat → Int32) (x1 : Int32) : Nat → (Int32) → (Int32) → (Int32) → Option ((Int32))
  | 0, _, _, _ => none
  | k + 1, x2, x3, x4 =>
    pbr ((99 : Int32) < x4)
      (some ((x2 * x3)))
      (pcl (f_X5_heightsFit x1 x4 s_books_count s_books_cells s_ocean_fade s_ocean_depths s_books_lows s_books_highs s_times) (fun r_2 => (
      pbr (r_2 = 0)
        (plt (x4 + (1 : Int32) : Int32) (fun x4_5 => (
        (f_X5_waysOf_17 s_books_count s_books_tos s_books_froms s_ocean_fade s_books_cells s_ocean_depths s_books_lows s_books_highs s_times x1 k) x2 x3 x4_5)))
        (plt (x3 + (1 : Int32) : Int32) (fun x3_6 => (
        plt (x4 + (1 : Int32) : Int32) (fun x4_7 => (
        (f_X5_waysOf_17 s_books_count s_books_tos s_books_froms s_ocean_fade s_books_cells s_ocean_depths s_books_lows s_books_highs s_times x1 k) x2 x3_6 x4_7))))))))

set_option maxRecDepth 100000 in
set_option maxHeartbeats 4000000 in
theorem k_X5_waysOf_17 {p : Program} {l : Launch} {e : Env} {s : State} {m : MethodId} {args : Array Value} {below : List Frame} {meth : Method} {c : Code} {A : Nat → Prop} {D : va_G} {cA : Nat → ClassId} (C0 : MX p s m args meth c cX5_waysOf 5 wsX5_waysOf RX5 (some .int) D cA) (hA : ∀ q, s.heap.size ≤ q → A q) {a0 : Nat} {q_books : Nat} {q_books_tos : Nat} {q_books_froms : Nat} {q_ocean : Nat} {q_books_cells : Nat} {q_ocean_depths : Nat} {q_books_lows : Nat} {q_books_highs : Nat} {q_times : Nat} {q_ocean_figures : Nat} {q_ocean_times : Nat} {r_times : Nat → Nat} {s_books_count : Int32} {s_books_tos : Nat → Int32} {s_books_froms : Nat → Int32} {s_ocean_pace : Int32} {s_ocean_fade : Int32} {s_books_cells : Nat → Int32} {s_ocean_depths : Nat → Int32} {s_books_lows : Nat → Int32} {s_books_highs : Nat → Int32} {s_times : Nat → Nat → Int32} {x1 : Int32} {o_r : Int32} : ∀ (k : Nat) (x2 : Int32) (x3 : Int32) (x4 : Int32), f_X5_waysOf_17 s_books_count s_books_tos s_books_froms s_ocean_fade s_books_cells s_ocean_depths s_books_lows s_books_highs s_times x1 k x2 x3 x4 = some o_r → ∀ (H : Heap) (locs : List Loc), va_P D vwCl (w_X5_waysOf a0 q_books q_books_tos q_books_froms q_ocean q_books_cells q_ocean_depths q_books_lows q_books_highs q_times q_ocean_figures q_ocean_times r_times cA s_books_count s_books_tos s_books_froms s_ocean_pace s_ocean_fade s_books_cells s_ocean_depths s_books_lows s_books_highs s_times) H → va_D A (w_X5_waysOf a0 q_books q_books_tos q_books_froms q_ocean q_books_cells q_ocean_depths q_books_lows q_books_highs q_times q_ocean_figures q_ocean_times r_times cA s_books_count s_books_tos s_books_froms s_ocean_pace s_ocean_fade s_books_cells s_ocean_depths s_books_lows s_books_highs s_times) → va_S A s.heap H locs → ∀ ls : Array Slot, lv_has ls 5 [(0, .ref a0), (1, .int x1), (2, .int x2), (3, .int x3), (4, .int x4)] → W p l e rm_X5_waysOf s m args below meth c H locs 0 0 (MQ below (CQ D (some (.int o_r)) (w_X5_waysOf a0 q_books q_books_tos q_books_froms q_ocean q_books_cells q_ocean_depths q_books_lows q_books_highs q_times q_ocean_figures q_ocean_times r_times cA s_books_count s_books_tos s_books_froms s_ocean_pace s_ocean_fade s_books_cells s_ocean_depths s_books_lows s_books_highs s_times) A) args s 0 0 A) (F0 m 17 ls []) := by
  obtain ⟨hx, hb, hml, hown, hts, hr, hlocks, hX⟩ := C0
  have hK := hX.1
  have hN := hX.2
  intro k
  induction k with
  | zero =>
    intro x2 x3 x4 hf
    cases hf
  | succ k ih =>
    intro x2 x3 x4 hf H locs hP hD hS ls hl
    rw [f_X5_waysOf_17] at hf
    refine lv_iload hx hb dX5_waysOf_17 (lv_at hl 4 rfl) ?_
    refine lv_bipush (v := (99 : Int32)) hx hb dX5_waysOf_19 (by decide) ?_
    refine lv_icmp_gt (tgt := 43) hx hb dX5_waysOf_21 (by decide) (fun c_1 => ?_) (fun c_1 => ?_)
    · have hf := pbr_t c_1 hf
      refine lv_iload_n hx hb dX5_waysOf_43 rfl (lv_at hl 2 rfl) ?_
      refine lv_iload_n hx hb dX5_waysOf_44 rfl (lv_at hl 3 rfl) ?_
      refine lv_imul hx hb dX5_waysOf_45 ?_
      obtain rfl := pe1 hf
      exact m_iret hx hb hr hlocks hP hS dX5_waysOf_46
    have hf := pbr_f c_1 hf
    refine lv_aload_n hx hb dX5_waysOf_24 rfl (lv_at hl 0 rfl) ?_
    refine lv_iload_n hx hb dX5_waysOf_25 rfl (lv_at hl 1 rfl) ?_
    refine lv_iload hx hb dX5_waysOf_26 (lv_at hl 4 rfl) ?_
    obtain ⟨r_2, hc_3, hf⟩ := pcl_e hf
    refine m_callV2 (As := [.int x1, .int x4]) (rest := []) ⟨hx, hb, hml, hown, hts⟩ hX (ct_X5_heightsFit l D cA x1 x4 a0 q_books q_books_cells q_ocean q_ocean_depths q_books_lows q_books_highs q_times q_books_froms q_books_tos q_ocean_figures q_ocean_times r_times s_books_count s_books_cells s_ocean_pace s_ocean_fade s_ocean_depths s_books_lows s_books_highs s_times r_2 hc_3) (cwV 2 hts gX5_waysOf_X5_heightsFit rfl rfl rfl (by decide +kernel) ⟨Nat.le_of_ble_eq_true rfl, Nat.le_of_ble_eq_true rfl⟩) hP hD hS hA [0, 1, 5, 4, 6, 7, 8, 9, 10, 11, 12, 13, 14, 15] [2, 3] 16 (by decide) rfl rfl (WS' := (w_X5_waysOf a0 q_books q_books_tos q_books_froms q_ocean q_books_cells q_ocean_depths q_books_lows q_books_highs q_times q_ocean_figures q_ocean_times r_times cA s_books_count s_books_tos s_books_froms s_ocean_pace s_ocean_fade s_books_cells s_ocean_depths s_books_lows s_books_highs s_times)) (WR := [(q_books_tos, .inl (cA 1, 6, .inl s_books_tos)), (q_books_froms, .inl (cA 1, 6, .inl s_books_froms))]) rfl rfl rfl rfl (by decide) (by decide) 0 5 rfl rfl rfl hl.1 rfl (st' := [.int r_2]) rfl (Nat.le_of_ble_eq_true rfl) ⟨Nat.zero_le _, Nat.zero_le _⟩ dX5_waysOf_28 (fun H locs hP hD hS => ?_)
    refine lv_if_eq (tgt := 37) hx hb dX5_waysOf_31 (by decide) (fun c_4 => ?_) (fun c_4 => ?_)
    · have hf := pbr_t c_4 hf
      obtain ⟨x4_5, ex4_5⟩ : ∃ z : Int32, z = x4 + (1 : Int32) := ⟨_, rfl⟩
      have hf := plt_e ex4_5 hf
      refine lv_iinc (v := x4_5) (lv' := [(4, .int x4_5), (0, .ref a0), (1, .int x1), (2, .int x2), (3, .int x3)]) hx hb dX5_waysOf_37 hl (k := 4) rfl (by rw [ex4_5]; rfl) (by decide) rfl (fun ls hl => ?_)
      refine lv_goto (tgt := 17) hx hb dX5_waysOf_40 (by decide) ?_
      exact ih x2 x3 x4_5 hf _ _ hP hD hS ls (lv_sub hl [1, 2, 3, 4, 0] rfl)
    have hf := pbr_f c_4 hf
    obtain ⟨x3_6, ex3_6⟩ : ∃ z : Int32, z = x3 + (1 : Int32) := ⟨_, rfl⟩
    have hf := plt_e ex3_6 hf
    refine lv_iinc (v := x3_6) (lv' := [(3, .int x3_6), (0, .ref a0), (1, .int x1), (2, .int x2), (4, .int x4)]) hx hb dX5_waysOf_34 hl (k := 3) rfl (by rw [ex3_6]; rfl) (by decide) rfl (fun ls hl => ?_)
    obtain ⟨x4_7, ex4_7⟩ : ∃ z : Int32, z = x4 + (1 : Int32) := ⟨_, rfl⟩
    have hf := plt_e ex4_7 hf
    refine lv_iinc (v := x4_7) (lv' := [(4, .int x4_7), (3, .int x3_6), (0, .ref a0), (1, .int x1), (2, .int x2)]) hx hb dX5_waysOf_37 hl (k := 4) rfl (by rw [ex4_7]; rfl) (by decide) rfl (fun ls hl => ?_)
    refine lv_goto (tgt := 17) hx hb dX5_waysOf_40 (by decide) ?_
    exact ih x2 x3_6 x4_7 hf _ _ hP hD hS ls (lv_sub hl [2, 3, 4, 1, 0] rfl)

def f_X5_waysOf (x1 : Int32) (s_books_count : Int32) (s_books_tos : Nat → Int32) (s_books_froms : Nat → Int32) (s_ocean_fade : Int32) (s_books_cells : Nat → Int32) (s_ocean_depths : Nat → Int32) (s_books_lows : Nat → Int32) (s_books_highs : Nat → Int32) (s_times : Nat → Nat → Int32) : Option ((Int32)) :=
  pcl (f_X5_beginsByHours x1 s_books_count s_books_tos s_books_froms s_times) (fun r_1 => (
  pbr (r_1 = 0)
    (some ((0 : Int32)))
    (f_X5_waysOf_17 s_books_count s_books_tos s_books_froms s_ocean_fade s_books_cells s_ocean_depths s_books_lows s_books_highs s_times x1 FU r_1 (0 : Int32) (1 : Int32))))

set_option maxRecDepth 100000 in
set_option maxHeartbeats 4000000 in
theorem ct_X5_waysOf (l : Launch) (D : va_G) (cA : Nat → ClassId) (x1 : Int32) (a0 : Nat) (q_books : Nat) (q_books_tos : Nat) (q_books_froms : Nat) (q_ocean : Nat) (q_books_cells : Nat) (q_ocean_depths : Nat) (q_books_lows : Nat) (q_books_highs : Nat) (q_times : Nat) (q_ocean_figures : Nat) (q_ocean_times : Nat) (r_times : Nat → Nat) (s_books_count : Int32) (s_books_tos : Nat → Int32) (s_books_froms : Nat → Int32) (s_ocean_pace : Int32) (s_ocean_fade : Int32) (s_books_cells : Nat → Int32) (s_ocean_depths : Nat → Int32) (s_books_lows : Nat → Int32) (s_books_highs : Nat → Int32) (s_times : Nat → Nat → Int32) (o_r : Int32) (hf : f_X5_waysOf x1 s_books_count s_books_tos s_books_froms s_ocean_fade s_books_cells s_ocean_depths s_books_lows s_books_highs s_times = some o_r) : CT l yX5_waysOf wsX5_waysOf rm_X5_waysOf D cA [.ref a0, .int x1] (w_X5_waysOf a0 q_books q_books_tos q_books_froms q_ocean q_books_cells q_ocean_depths q_books_lows q_books_highs q_times q_ocean_figures q_ocean_times r_times cA s_books_count s_books_tos s_books_froms s_ocean_pace s_ocean_fade s_books_cells s_ocean_depths s_books_lows s_books_highs s_times) (w_X5_waysOf a0 q_books q_books_tos q_books_froms q_ocean q_books_cells q_ocean_depths q_books_lows q_books_highs q_times q_ocean_figures q_ocean_times r_times cA s_books_count s_books_tos s_books_froms s_ocean_pace s_ocean_fade s_books_cells s_ocean_depths s_books_lows s_books_highs s_times) (some (.int o_r)) := by
  refine CT.ofW (cc := cX5_waysOf) (maxL := 5) (ret := (some .int)) (by decide +kernel) rfl (Nat.le_of_ble_eq_true rfl) ?_
  intro p e s m below meth c A C0 hA hP hD ls hl
  have C0 : MX p s m [.ref a0, .int x1].toArray meth c cX5_waysOf 5 wsX5_waysOf RX5 (some .int) D cA := C0
  have hl : lv_has ls 5 [(0, .ref a0), (1, .int x1)] := hl
  obtain ⟨hx, hb, hml, hown, hts, hr, hlocks, hX⟩ := id C0
  have hK := hX.1
  have hN := hX.2
  have hS : va_S A s.heap s.heap [] := va_S.rf
  unfold f_X5_waysOf at hf
  refine lv_aload_n hx hb dX5_waysOf_0 rfl (lv_at hl 0 rfl) ?_
  refine lv_iload_n hx hb dX5_waysOf_1 rfl (lv_at hl 1 rfl) ?_
  obtain ⟨r_1, hc_2, hf⟩ := pcl_e hf
  refine m_callV2 (As := [.int x1]) (rest := []) ⟨hx, hb, hml, hown, hts⟩ hX (ct_X5_beginsByHours l D cA x1 a0 q_books q_books_tos q_books_froms q_times q_ocean q_books_cells q_books_lows q_books_highs r_times s_books_count s_books_tos s_books_froms s_times r_1 hc_2) (cwV 1 hts gX5_waysOf_X5_beginsByHours rfl rfl rfl (by decide +kernel) ⟨Nat.le_of_ble_eq_true rfl, Nat.le_of_ble_eq_true rfl⟩) hP hD hS hA [0, 1, 2, 3, 9, 10, 11, 12, 13, 14, 15] [4, 5, 6, 7, 8] 16 (by decide) rfl rfl (WS' := (w_X5_waysOf a0 q_books q_books_tos q_books_froms q_ocean q_books_cells q_ocean_depths q_books_lows q_books_highs q_times q_ocean_figures q_ocean_times r_times cA s_books_count s_books_tos s_books_froms s_ocean_pace s_ocean_fade s_books_cells s_ocean_depths s_books_lows s_books_highs s_times)) (WR := [(q_ocean, .inr (4, [.ref q_ocean_depths, .ref q_ocean_figures, .ref q_ocean_times, .int s_ocean_pace, .int s_ocean_fade])), (q_books_cells, .inl (cA 1, 6, .inl s_books_cells)), (q_ocean_depths, .inl (cA 1, 48, .inl s_ocean_depths)), (q_books_lows, .inl (cA 1, 6, .inl s_books_lows)), (q_books_highs, .inl (cA 1, 6, .inl s_books_highs))]) rfl rfl rfl rfl (by decide) (by decide) 0 5 rfl rfl rfl hl.1 rfl (st' := [.int r_1]) rfl (Nat.le_of_ble_eq_true rfl) ⟨Nat.zero_le _, Nat.zero_le _⟩ dX5_waysOf_2 (fun H locs hP hD hS => ?_)
  refine lv_istore_n (lv' := [(2, .int r_1), (0, .ref a0), (1, .int x1)]) hx hb dX5_waysOf_5 rfl hl (by decide) rfl (fun ls hl => ?_)
  refine lv_iload_n hx hb dX5_waysOf_6 rfl (lv_at hl 0 rfl) ?_
  refine lv_if_ne (tgt := 12) hx hb dX5_waysOf_7 (by decide) (fun c_3 => ?_) (fun c_3 => ?_)
  · have hf := pbr_f c_3 hf
    refine lv_iconst (v := (0 : Int32)) hx hb dX5_waysOf_12 (by decide) ?_
    refine lv_istore_n (lv' := [(3, .int (0 : Int32)), (2, .int r_1), (0, .ref a0), (1, .int x1)]) hx hb dX5_waysOf_13 rfl hl (by decide) rfl (fun ls hl => ?_)
    refine lv_iconst (v := (1 : Int32)) hx hb dX5_waysOf_14 (by decide) ?_
    refine lv_istore (lv' := [(4, .int (1 : Int32)), (3, .int (0 : Int32)), (2, .int r_1), (0, .ref a0), (1, .int x1)]) hx hb dX5_waysOf_15 hl (by decide) rfl (fun ls hl => ?_)
    exact k_X5_waysOf_17 C0 hA FU r_1 (0 : Int32) (1 : Int32) hf _ _ hP hD hS ls (lv_sub hl [3, 4, 2, 1, 0] rfl)
  have hf := pbr_t c_3 hf
  refine lv_iconst (v := (0 : Int32)) hx hb dX5_waysOf_10 (by decide) ?_
  obtain rfl := pe1 hf
  exact m_iret hx hb hr hlocks hP hS dX5_waysOf_11

/-! ===== OrphanWave$Search.allWays()I ===== -/
abbrev rm_X5_allWays : Room := { frames := 4, cells := 0, slots := 0, locals := 81 }
abbrev wx_X5_allWays (a0 : Nat) (q_books : Nat) (q_ocean : Nat) (q_books_tos : Nat) (q_books_froms : Nat) (q_books_cells : Nat) (q_ocean_depths : Nat) (q_books_lows : Nat) (q_books_highs : Nat) (q_times : Nat) (q_ocean_figures : Nat) (q_ocean_times : Nat) (r_times : Nat → Nat) (cA : Nat → ClassId) (s_books_count : Int32) (s_ocean_pace : Int32) (s_ocean_fade : Int32) (s_books_tos : Nat → Int32) (s_books_froms : Nat → Int32) (s_books_cells : Nat → Int32) (s_ocean_depths : Nat → Int32) (s_books_lows : Nat → Int32) (s_books_highs : Nat → Int32) (s_times : Nat → Nat → Int32) : va_W := [(a0, .inr (5, [.ref q_ocean, .ref q_books, .ref q_times])), (q_books, .inr (0, [.ref q_books_cells, .ref q_books_froms, .ref q_books_tos, .ref q_books_lows, .ref q_books_highs, .int s_books_count])), (q_ocean, .inr (4, [.ref q_ocean_depths, .ref q_ocean_figures, .ref q_ocean_times, .int s_ocean_pace, .int s_ocean_fade])), (q_books_tos, .inl (cA 1, 6, .inl s_books_tos)), (q_books_froms, .inl (cA 1, 6, .inl s_books_froms)), (q_books_cells, .inl (cA 1, 6, .inl s_books_cells)), (q_ocean_depths, .inl (cA 1, 48, .inl s_ocean_depths)), (q_books_lows, .inl (cA 1, 6, .inl s_books_lows)), (q_books_highs, .inl (cA 1, 6, .inl s_books_highs)), (q_times, .inl (cA 5, 6, .inr (.inr (.inr (.inr (gro 6 r_times))))))]
abbrev w_X5_allWays (a0 : Nat) (q_books : Nat) (q_ocean : Nat) (q_books_tos : Nat) (q_books_froms : Nat) (q_books_cells : Nat) (q_ocean_depths : Nat) (q_books_lows : Nat) (q_books_highs : Nat) (q_times : Nat) (q_ocean_figures : Nat) (q_ocean_times : Nat) (r_times : Nat → Nat) (cA : Nat → ClassId) (s_books_count : Int32) (s_ocean_pace : Int32) (s_ocean_fade : Int32) (s_books_tos : Nat → Int32) (s_books_froms : Nat → Int32) (s_books_cells : Nat → Int32) (s_ocean_depths : Nat → Int32) (s_books_lows : Nat → Int32) (s_books_highs : Nat → Int32) (s_times : Nat → Nat → Int32) : va_W := [(a0, .inr (5, [.ref q_ocean, .ref q_books, .ref q_times])), (q_books, .inr (0, [.ref q_books_cells, .ref q_books_froms, .ref q_books_tos, .ref q_books_lows, .ref q_books_highs, .int s_books_count])), (q_ocean, .inr (4, [.ref q_ocean_depths, .ref q_ocean_figures, .ref q_ocean_times, .int s_ocean_pace, .int s_ocean_fade])), (q_books_tos, .inl (cA 1, 6, .inl s_books_tos)), (q_books_froms, .inl (cA 1, 6, .inl s_books_froms)), (q_books_cells, .inl (cA 1, 6, .inl s_books_cells)), (q_ocean_depths, .inl (cA 1, 48, .inl s_ocean_depths)), (q_books_lows, .inl (cA 1, 6, .inl s_books_lows)), (q_books_highs, .inl (cA 1, 6, .inl s_books_highs)), (q_times, .inl (cA 5, 6, .inr (.inr (.inr (.inr (gro 6 r_times))))))] ++ grw 6 r_times (cA 1) 48 s_times

def f_X5_allWays_4 (s_books_count : Int32) (s_ocean_fade : Int32) (s_books_tos : Nat → Int32) (s_books_froms : Nat → Int32) (s_books_cells : Nat → Int32) (s_ocean_depths : Nat → Int32) (s_books_lows : Nat → Int32) (s_books_highs : Nat → Int32) (s_times : Nat → Nat → Int32) : Nat → (Int32) → (Int32) → Option ((Int32))
  | 0, _, _ => none
  | k + 1, x1, x2 =>
    pbr ((48 : Int32) ≤ x2)
      (some (x1))
      (pcl (f_X5_waysOf x2 s_books_count s_books_tos s_books_froms s_ocean_fade s_books_cells s_ocean_depths s_books_lows s_books_highs s_times) (fun r_2 => (
      plt ((x1 + r_2) : Int32) (fun x1_4 => (
      plt (x2 + (1 : Int32) : Int32) (fun x2_5 => (
      (f_X5_allWays_4 s_books_count s_ocean_fade s_books_tos s_books_froms s_books_cells s_ocean_depths s_books_lows s_books_highs s_times k) x1_4 x2_5)))))))

set_option maxRecDepth 100000 in
set_option maxHeartbeats 4000000 in
theorem k_X5_allWays_4 {p : Program} {l : Launch} {e : Env} {s : State} {m : MethodId} {args : Array Value} {below : List Frame} {meth : Method} {c : Code} {A : Nat → Prop} {D : va_G} {cA : Nat → ClassId} (C0 : MX p s m args meth c cX5_allWays 3 wsX5_allWays RX5 (some .int) D cA) (hA : ∀ q, s.heap.size ≤ q → A q) {a0 : Nat} {q_books : Nat} {q_ocean : Nat} {q_books_tos : Nat} {q_books_froms : Nat} {q_books_cells : Nat} {q_ocean_depths : Nat} {q_books_lows : Nat} {q_books_highs : Nat} {q_times : Nat} {q_ocean_figures : Nat} {q_ocean_times : Nat} {r_times : Nat → Nat} {s_books_count : Int32} {s_ocean_pace : Int32} {s_ocean_fade : Int32} {s_books_tos : Nat → Int32} {s_books_froms : Nat → Int32} {s_books_cells : Nat → Int32} {s_ocean_depths : Nat → Int32} {s_books_lows : Nat → Int32} {s_books_highs : Nat → Int32} {s_times : Nat → Nat → Int32} {o_r : Int32} : ∀ (k : Nat) (x1 : Int32) (x2 : Int32), f_X5_allWays_4 s_books_count s_ocean_fade s_books_tos s_books_froms s_books_cells s_ocean_depths s_books_lows s_books_highs s_times k x1 x2 = some o_r → ∀ (H : Heap) (locs : List Loc), va_P D vwCl (w_X5_allWays a0 q_books q_ocean q_books_tos q_books_froms q_books_cells q_ocean_depths q_books_lows q_books_highs q_times q_ocean_figures q_ocean_times r_times cA s_books_count s_ocean_pace s_ocean_fade s_books_tos s_books_froms s_books_cells s_ocean_depths s_books_lows s_books_highs s_times) H → va_D A (w_X5_allWays a0 q_books q_ocean q_books_tos q_books_froms q_books_cells q_ocean_depths q_books_lows q_books_highs q_times q_ocean_figures q_ocean_times r_times cA s_books_count s_ocean_pace s_ocean_fade s_books_tos s_books_froms s_books_cells s_ocean_depths s_books_lows s_books_highs s_times) → va_S A s.heap H locs → ∀ ls : Array Slot, lv_has ls 3 [(0, .ref a0), (1, .int x1), (2, .int x2)] → W p l e rm_X5_allWays s m args below meth c H locs 0 0 (MQ below (CQ D (some (.int o_r)) (w_X5_allWays a0 q_books q_ocean q_books_tos q_books_froms q_books_cells q_ocean_depths q_books_lows q_books_highs q_times q_ocean_figures q_ocean_times r_times cA s_books_count s_ocean_pace s_ocean_fade s_books_tos s_books_froms s_books_cells s_ocean_depths s_books_lows s_books_highs s_times) A) args s 0 0 A) (F0 m 4 ls []) := by
  obtain ⟨hx, hb, hml, hown, hts, hr, hlocks, hX⟩ := C0
  have hK := hX.1
  have hN := hX.2
  intro k
  induction k with
  | zero =>
    intro x1 x2 hf
    cases hf
  | succ k ih =>
    intro x1 x2 hf H locs hP hD hS ls hl
    rw [f_X5_allWays_4] at hf
    refine lv_iload_n hx hb dX5_allWays_4 rfl (lv_at hl 2 rfl) ?_
    refine lv_bipush (v := (48 : Int32)) hx hb dX5_allWays_5 (by decide) ?_
    refine lv_icmp_ge (tgt := 24) hx hb dX5_allWays_7 (by decide) (fun c_1 => ?_) (fun c_1 => ?_)
    · have hf := pbr_t c_1 hf
      refine lv_iload_n hx hb dX5_allWays_24 rfl (lv_at hl 1 rfl) ?_
      obtain rfl := pe1 hf
      exact m_iret hx hb hr hlocks hP hS dX5_allWays_25
    have hf := pbr_f c_1 hf
    refine lv_iload_n hx hb dX5_allWays_10 rfl (lv_at hl 1 rfl) ?_
    refine lv_aload_n hx hb dX5_allWays_11 rfl (lv_at hl 0 rfl) ?_
    refine lv_iload_n hx hb dX5_allWays_12 rfl (lv_at hl 2 rfl) ?_
    obtain ⟨r_2, hc_3, hf⟩ := pcl_e hf
    refine m_callV2 (As := [.int x2]) (rest := [.int x1]) ⟨hx, hb, hml, hown, hts⟩ hX (ct_X5_waysOf l D cA x2 a0 q_books q_books_tos q_books_froms q_ocean q_books_cells q_ocean_depths q_books_lows q_books_highs q_times q_ocean_figures q_ocean_times r_times s_books_count s_books_tos s_books_froms s_ocean_pace s_ocean_fade s_books_cells s_ocean_depths s_books_lows s_books_highs s_times r_2 hc_3) (cwV 1 hts gX5_allWays_X5_waysOf rfl rfl rfl (by decide +kernel) ⟨Nat.le_of_ble_eq_true rfl, Nat.le_of_ble_eq_true rfl⟩) hP hD hS hA [0, 1, 3, 4, 2, 5, 6, 7, 8, 9, 10, 11, 12, 13, 14, 15] [] 16 (by decide) rfl rfl (WS' := (w_X5_allWays a0 q_books q_ocean q_books_tos q_books_froms q_books_cells q_ocean_depths q_books_lows q_books_highs q_times q_ocean_figures q_ocean_times r_times cA s_books_count s_ocean_pace s_ocean_fade s_books_tos s_books_froms s_books_cells s_ocean_depths s_books_lows s_books_highs s_times)) (WR := []) rfl rfl rfl rfl (by decide) (by decide) 0 5 rfl rfl rfl hl.1 rfl (st' := [.int r_2, .int x1]) rfl (Nat.le_of_ble_eq_true rfl) ⟨Nat.zero_le _, Nat.zero_le _⟩ dX5_allWays_13 (fun H locs hP hD hS => ?_)
    refine lv_iadd hx hb dX5_allWays_16 ?_
    refine lv_topi (fun x1_4 ex1_4 => ?_)
    have hf := plt_e ex1_4 hf
    refine lv_istore_n (lv' := [(1, .int x1_4), (0, .ref a0), (2, .int x2)]) hx hb dX5_allWays_17 rfl hl (by decide) rfl (fun ls hl => ?_)
    obtain ⟨x2_5, ex2_5⟩ : ∃ z : Int32, z = x2 + (1 : Int32) := ⟨_, rfl⟩
    have hf := plt_e ex2_5 hf
    refine lv_iinc (v := x2_5) (lv' := [(2, .int x2_5), (1, .int x1_4), (0, .ref a0)]) hx hb dX5_allWays_18 hl (k := 2) rfl (by rw [ex2_5]; rfl) (by decide) rfl (fun ls hl => ?_)
    refine lv_goto (tgt := 4) hx hb dX5_allWays_21 (by decide) ?_
    exact ih x1_4 x2_5 hf _ _ hP hD hS ls (lv_sub hl [2, 1, 0] rfl)

def f_X5_allWays (s_books_count : Int32) (s_ocean_fade : Int32) (s_books_tos : Nat → Int32) (s_books_froms : Nat → Int32) (s_books_cells : Nat → Int32) (s_ocean_depths : Nat → Int32) (s_books_lows : Nat → Int32) (s_books_highs : Nat → Int32) (s_times : Nat → Nat → Int32) : Option ((Int32)) :=
  f_X5_allWays_4 s_books_count s_ocean_fade s_books_tos s_books_froms s_books_cells s_ocean_depths s_books_lows s_books_highs s_times FU (0 : Int32) (0 : Int32)

set_option maxRecDepth 100000 in
set_option maxHeartbeats 4000000 in
theorem ct_X5_allWays (l : Launch) (D : va_G) (cA : Nat → ClassId) (a0 : Nat) (q_books : Nat) (q_ocean : Nat) (q_books_tos : Nat) (q_books_froms : Nat) (q_books_cells : Nat) (q_ocean_depths : Nat) (q_books_lows : Nat) (q_books_highs : Nat) (q_times : Nat) (q_ocean_figures : Nat) (q_ocean_times : Nat) (r_times : Nat → Nat) (s_books_count : Int32) (s_ocean_pace : Int32) (s_ocean_fade : Int32) (s_books_tos : Nat → Int32) (s_books_froms : Nat → Int32) (s_books_cells : Nat → Int32) (s_ocean_depths : Nat → Int32) (s_books_lows : Nat → Int32) (s_books_highs : Nat → Int32) (s_times : Nat → Nat → Int32) (o_r : Int32) (hf : f_X5_allWays s_books_count s_ocean_fade s_books_tos s_books_froms s_books_cells s_ocean_depths s_books_lows s_books_highs s_times = some o_r) : CT l yX5_allWays wsX5_allWays rm_X5_allWays D cA [.ref a0] (w_X5_allWays a0 q_books q_ocean q_books_tos q_books_froms q_books_cells q_ocean_depths q_books_lows q_books_highs q_times q_ocean_figures q_ocean_times r_times cA s_books_count s_ocean_pace s_ocean_fade s_books_tos s_books_froms s_books_cells s_ocean_depths s_books_lows s_books_highs s_times) (w_X5_allWays a0 q_books q_ocean q_books_tos q_books_froms q_books_cells q_ocean_depths q_books_lows q_books_highs q_times q_ocean_figures q_ocean_times r_times cA s_books_count s_ocean_pace s_ocean_fade s_books_tos s_books_froms s_books_cells s_ocean_depths s_books_lows s_books_highs s_times) (some (.int o_r)) := by
  refine CT.ofW (cc := cX5_allWays) (maxL := 3) (ret := (some .int)) (by decide +kernel) rfl (Nat.le_of_ble_eq_true rfl) ?_
  intro p e s m below meth c A C0 hA hP hD ls hl
  have C0 : MX p s m [.ref a0].toArray meth c cX5_allWays 3 wsX5_allWays RX5 (some .int) D cA := C0
  have hl : lv_has ls 3 [(0, .ref a0)] := hl
  obtain ⟨hx, hb, hml, hown, hts, hr, hlocks, hX⟩ := id C0
  have hK := hX.1
  have hN := hX.2
  have hS : va_S A s.heap s.heap [] := va_S.rf
  unfold f_X5_allWays at hf
  refine lv_iconst (v := (0 : Int32)) hx hb dX5_allWays_0 (by decide) ?_
  refine lv_istore_n (lv' := [(1, .int (0 : Int32)), (0, .ref a0)]) hx hb dX5_allWays_1 rfl hl (by decide) rfl (fun ls hl => ?_)
  refine lv_iconst (v := (0 : Int32)) hx hb dX5_allWays_2 (by decide) ?_
  refine lv_istore_n (lv' := [(2, .int (0 : Int32)), (1, .int (0 : Int32)), (0, .ref a0)]) hx hb dX5_allWays_3 rfl hl (by decide) rfl (fun ls hl => ?_)
  exact k_X5_allWays_4 C0 hA FU (0 : Int32) (0 : Int32) hf _ _ hP hD hS ls (lv_sub hl [2, 1, 0] rfl)
