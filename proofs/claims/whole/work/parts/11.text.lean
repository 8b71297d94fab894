/-! ===== OrphanWave$Text.append(B)V ===== -/
abbrev rm_X9_append : Room := { frames := 0, cells := 0, slots := 0, locals := 0 }
abbrev w_X9_append (a0 : Nat) (q_bytes : Nat) (cA : Nat → ClassId) (s_length : Int32) (s_bytes : Nat → Int32) : va_W := [(a0, .inr (9, [.ref q_bytes, .int s_length])), (q_bytes, .inl (cA 0, 400, .inl s_bytes))]
theorem hn_X9_append_X9 : ∀ w ∈ u_ws RX9 TX9 2, w ∈ wsX9_append := by decide +kernel
theorem hw_X9_append_f15 : Cond.fieldLink RX9 15 "OrphanWave$Text" "length" "I" ∈ wsX9_append := by decide +kernel
theorem hw_X9_append_f9 : Cond.fieldLink RX9 9 "OrphanWave$Text" "bytes" "[B" ∈ wsX9_append := by decide +kernel

def f_X9_append (x1 : Int32) (s_length : Int32) (s_bytes : Nat → Int32) : Option ((Int32) × (Nat → Int32)) :=
  pbr ((400 : Int32) ≤ s_length)
    (some (s_length, s_bytes))
    (plt ((s_length + (1 : Int32)) : Int32) (fun length_2 => (
    pgd (pin s_length 400) (
    plt (upd s_bytes s_length.toNatClampNeg (vp_nar .byte x1) : Nat → Int32) (fun f_4 => (
    some (length_2, f_4)))))))

set_option maxRecDepth 100000 in
set_option maxHeartbeats 4000000 in
theorem ct_X9_append (l : Launch) (D : va_G) (cA : Nat → ClassId) (x1 : Int32) (a0 : Nat) (q_bytes : Nat) (s_length : Int32) (s_bytes : Nat → Int32) (o_length : Int32) (o_bytes : Nat → Int32) (hf : f_X9_append x1 s_length s_bytes = some (o_length, o_bytes)) : CT l yX9_append wsX9_append rm_X9_append D cA [.ref a0, .int x1] (w_X9_append a0 q_bytes cA s_length s_bytes) (w_X9_append a0 q_bytes cA o_length o_bytes) none := by
  refine CT.ofW (cc := cX9_append) (maxL := 2) (ret := none) (by decide +kernel) rfl (Nat.le_of_ble_eq_true rfl) ?_
  intro p e s m below meth c A C0 hA hP hD ls hl
  have C0 : MX p s m [.ref a0, .int x1].toArray meth c cX9_append 2 wsX9_append RX9 none D cA := C0
  have hl : lv_has ls 2 [(0, .ref a0), (1, .int x1)] := hl
  obtain ⟨hx, hb, hml, hown, hts, hr, hlocks, hX⟩ := id C0
  have hK := hX.1
  have hN := hX.2
  have hS : va_S A s.heap s.heap [] := va_S.rf
  unfold f_X9_append at hf
  refine lv_aload_n hx hb dX9_append_0 rfl (lv_at hl 0 rfl) ?_
  refine va_get (D := D) (ci := 9) (v := .int s_length) (C := RX9) (T := TX9) (N := 2) hx hb hts hn_X9_append_X9 hown hK hP 0 rfl rfl 1 (by decide) (hts _ hw_X9_append_f15) (fun _ h9 => h9) rfl dX9_append_1 ?_
  refine lv_sipush (v := (400 : Int32)) hx hb dX9_append_4 (by decide) ?_
  refine lv_icmp_ge (tgt := 27) hx hb dX9_append_7 (by decide) (fun c_1 => ?_) (fun c_1 => ?_)
  · have hf := pbr_t c_1 hf
    obtain ⟨rfl, rfl⟩ := pe2 hf
    exact m_vret hx hb hr hlocks hP hS dX9_append_27
  have hf := pbr_f c_1 hf
  refine lv_aload_n hx hb dX9_append_10 rfl (lv_at hl 0 rfl) ?_
  refine va_get (D := D) (ci := 9) (v := .ref q_bytes) (C := RX9) (T := TX9) (N := 2) hx hb hts hn_X9_append_X9 hown hK hP 0 rfl rfl 0 (by decide) (hts _ hw_X9_append_f9) (fun _ h9 => h9) rfl dX9_append_11 ?_
  refine lv_aload_n hx hb dX9_append_14 rfl (lv_at hl 0 rfl) ?_
  refine lv_dup hx hb dX9_append_15 rfl ?_
  refine va_get (D := D) (ci := 9) (v := .int s_length) (C := RX9) (T := TX9) (N := 2) hx hb hts hn_X9_append_X9 hown hK hP 0 rfl rfl 1 (by decide) (hts _ hw_X9_append_f15) (fun _ h9 => h9) rfl dX9_append_16 ?_
  refine lv_dup_x1 hx hb dX9_append_19 rfl rfl ?_
  refine lv_iconst (v := (1 : Int32)) hx hb dX9_append_20 (by decide) ?_
  refine lv_iadd hx hb dX9_append_21 ?_
  refine lv_topi (fun length_2 elength_2 => ?_)
  have hf := plt_e elength_2 hf
  refine va_put (D := D) (ci := 9) (v := .int length_2) (ty := .int) (C := RX9) (T := TX9) (N := 2) hx hb hts hn_X9_append_X9 tyX9 tyX9_ok nmX9 hown hK hP hD hS 0 rfl rfl 1 (by decide) (hts _ hw_X9_append_f15) (fun _ h9 => h9) rfl (by decide +kernel) rfl rfl (Nat.le_of_ble_eq_true rfl) dX9_append_22 (fun H locs hP hD hS => ?_)
  have hP : va_P D vwCl (w_X9_append a0 q_bytes cA length_2 s_bytes) H := hP
  have hD : va_D A (w_X9_append a0 q_bytes cA length_2 s_bytes) := hD
  refine lv_iload_n hx hb dX9_append_25 rfl (lv_at hl 1 rfl) ?_
  obtain ⟨g_3, hf⟩ := pgd_e hf
  refine va_bast hx hb hK hP hD hS 1 0 rfl rfl g_3 dX9_append_26 (fun H locs hP hD hS => ?_)
  obtain ⟨f_4, ef_4⟩ : ∃ z : Nat → Int32, z = upd s_bytes s_length.toNatClampNeg (vp_nar .byte x1) := ⟨_, rfl⟩
  have hf := plt_e ef_4 hf
  have hP : va_P D vwCl (w_X9_append a0 q_bytes cA length_2 f_4) H := by rw [ef_4]; exact hP
  have hD : va_D A (w_X9_append a0 q_bytes cA length_2 f_4) := by rw [ef_4]; exact hD
  obtain ⟨rfl, rfl⟩ := pe2 hf
  exact m_vret hx hb hr hlocks hP hS dX9_append_27

/-! ===== OrphanWave$Text.empty()I ===== -/
abbrev rm_X9_empty : Room := { frames := 0, cells := 0, slots := 0, locals := 0 }
abbrev w_X9_empty (a0 : Nat) (q_bytes : Nat) (cA : Nat → ClassId) (s_length : Int32) : va_W := [(a0, .inr (9, [.ref q_bytes, .int s_length]))]
theorem hn_X9_empty_X9 : ∀ w ∈ u_ws RX9 TX9 2, w ∈ wsX9_empty := by decide +kernel
theorem hw_X9_empty_f15 : Cond.fieldLink RX9 15 "OrphanWave$Text" "length" "I" ∈ wsX9_empty := by decide +kernel

def f_X9_empty (s_length : Int32) : Option ((Int32) × (Int32)) :=
  some (s_length, (0 : Int32))

set_option maxRecDepth 100000 in
set_option maxHeartbeats 4000000 in
theorem ct_X9_empty (l : Launch) (D : va_G) (cA : Nat → ClassId) (a0 : Nat) (q_bytes : Nat) (s_length : Int32) (o_r : Int32) (o_length : Int32) (hf : f_X9_empty s_length = some (o_r, o_length)) : CT l yX9_empty wsX9_empty rm_X9_empty D cA [.ref a0] (w_X9_empty a0 q_bytes cA s_length) (w_X9_empty a0 q_bytes cA o_length) (some (.int o_r)) := by
  refine CT.ofW (cc := cX9_empty) (maxL := 2) (ret := (some .int)) (by decide +kernel) rfl (Nat.le_of_ble_eq_true rfl) ?_
  intro p e s m below meth c A C0 hA hP hD ls hl
  have C0 : MX p s m [.ref a0].toArray meth c cX9_empty 2 wsX9_empty RX9 (some .int) D cA := C0
  have hl : lv_has ls 2 [(0, .ref a0)] := hl
  obtain ⟨hx, hb, hml, hown, hts, hr, hlocks, hX⟩ := id C0
  have hK := hX.1
  have hN := hX.2
  have hS : va_S A s.heap s.heap [] := va_S.rf
  unfold f_X9_empty at hf
  refine lv_aload_n hx hb dX9_empty_0 rfl (lv_at hl 0 rfl) ?_
  refine va_get (D := D) (ci := 9) (v := .int s_length) (C := RX9) (T := TX9) (N := 2) hx hb hts hn_X9_empty_X9 hown hK hP 0 rfl rfl 1 (by decide) (hts _ hw_X9_empty_f15) (fun _ h9 => h9) rfl dX9_empty_1 ?_
  refine lv_istore_n (lv' := [(1, .int s_length), (0, .ref a0)]) hx hb dX9_empty_4 rfl hl (by decide) rfl (fun ls hl => ?_)
  refine lv_aload_n hx hb dX9_empty_5 rfl (lv_at hl 1 rfl) ?_
  refine lv_iconst (v := (0 : Int32)) hx hb dX9_empty_6 (by decide) ?_
  refine va_put (D := D) (ci := 9) (v := .int (0 : Int32)) (ty := .int) (C := RX9) (T := TX9) (N := 2) hx hb hts hn_X9_empty_X9 tyX9 tyX9_ok nmX9 hown hK hP hD hS 0 rfl rfl 1 (by decide) (hts _ hw_X9_empty_f15) (fun _ h9 => h9) rfl (by decide +kernel) rfl rfl (Nat.le_of_ble_eq_true rfl) dX9_empty_7 (fun H locs hP hD hS => ?_)
  have hP : va_P D vwCl (w_X9_empty a0 q_bytes cA (0 : Int32)) H := hP
  have hD : va_D A (w_X9_empty a0 q_bytes cA (0 : Int32)) := hD
  refine lv_iload_n hx hb dX9_empty_10 rfl (lv_at hl 0 rfl) ?_
  obtain ⟨rfl, rfl⟩ := pe2 hf
  exact m_iret hx hb hr hlocks hP hS dX9_empty_11

/-! ===== OrphanWave$Text.byteAt(I)I ===== -/
abbrev rm_X9_byteAt : Room := { frames := 0, cells := 0, slots := 0, locals := 0 }
abbrev w_X9_byteAt (a0 : Nat) (q_bytes : Nat) (cA : Nat → ClassId) (s_length : Int32) (s_bytes : Nat → Int32) : va_W := [(a0, .inr (9, [.ref q_bytes, .int s_length])), (q_bytes, .inl (cA 0, 400, .inl s_bytes))]
theorem hn_X9_byteAt_X9 : ∀ w ∈ u_ws RX9 TX9 2, w ∈ wsX9_byteAt := by decide +kernel
theorem hw_X9_byteAt_f15 : Cond.fieldLink RX9 15 "OrphanWave$Text" "length" "I" ∈ wsX9_byteAt := by decide +kernel
theorem hw_X9_byteAt_f9 : Cond.fieldLink RX9 9 "OrphanWave$Text" "bytes" "[B" ∈ wsX9_byteAt := by decide +kernel

def f_X9_byteAt (x1 : Int32) (s_length : Int32) (s_bytes : Nat → Int32) : Option ((Int32)) :=
  pbr (x1 < 0)
    (some ((-1 : Int32)))
    (pbr (s_length ≤ x1)
      (some ((-1 : Int32)))
      (pgd (pin x1 400) (
      some (((s_bytes x1.toNatClampNeg) &&& (255 : Int32))))))

set_option maxRecDepth 100000 in
set_option maxHeartbeats 4000000 in
theorem ct_X9_byteAt (l : Launch) (D : va_G) (cA : Nat → ClassId) (x1 : Int32) (a0 : Nat) (q_bytes : Nat) (s_length : Int32) (s_bytes : Nat → Int32) (o_r : Int32) (hf : f_X9_byteAt x1 s_length s_bytes = some o_r) : CT l yX9_byteAt wsX9_byteAt rm_X9_byteAt D cA [.ref a0, .int x1] (w_X9_byteAt a0 q_bytes cA s_length s_bytes) (w_X9_byteAt a0 q_bytes cA s_length s_bytes) (some (.int o_r)) := by
  refine CT.ofW (cc := cX9_byteAt) (maxL := 2) (ret := (some .int)) (by decide +kernel) rfl (Nat.le_of_ble_eq_true rfl) ?_
  intro p e s m below meth c A C0 hA hP hD ls hl
  have C0 : MX p s m [.ref a0, .int x1].toArray meth c cX9_byteAt 2 wsX9_byteAt RX9 (some .int) D cA := C0
  have hl : lv_has ls 2 [(0, .ref a0), (1, .int x1)] := hl
  obtain ⟨hx, hb, hml, hown, hts, hr, hlocks, hX⟩ := id C0
  have hK := hX.1
  have hN := hX.2
  have hS : va_S A s.heap s.heap [] := va_S.rf
  unfold f_X9_byteAt at hf
  refine lv_iload_n hx hb dX9_byteAt_0 rfl (lv_at hl 1 rfl) ?_
  refine lv_if_lt (tgt := 25) hx hb dX9_byteAt_1 (by decide) (fun c_1 => ?_) (fun c_1 => ?_)
  · have hf := pbr_t c_1 hf
    refine lv_iconst (v := (-1 : Int32)) hx hb dX9_byteAt_25 (by decide) ?_
    obtain rfl := pe1 hf
    exact m_iret hx hb hr hlocks hP hS dX9_byteAt_26
  have hf := pbr_f c_1 hf
  refine lv_iload_n hx hb dX9_byteAt_4 rfl (lv_at hl 1 rfl) ?_
  refine lv_aload_n hx hb dX9_byteAt_5 rfl (lv_at hl 0 rfl) ?_
  refine va_get (D := D) (ci := 9) (v := .int s_length) (C := RX9) (T := TX9) (N := 2) hx hb hts hn_X9_byteAt_X9 hown hK hP 0 rfl rfl 1 (by decide) (hts _ hw_X9_byteAt_f15) (fun _ h9 => h9) rfl dX9_byteAt_6 ?_
  refine lv_icmp_ge (tgt := 25) hx hb dX9_byteAt_9 (by decide) (fun c_2 => ?_) (fun c_2 => ?_)
  · have hf := pbr_t c_2 hf
    refine lv_iconst (v := (-1 : Int32)) hx hb dX9_byteAt_25 (by decide) ?_
    obtain rfl := pe1 hf
    exact m_iret hx hb hr hlocks hP hS dX9_byteAt_26
  have hf := pbr_f c_2 hf
  refine lv_aload_n hx hb dX9_byteAt_12 rfl (lv_at hl 0 rfl) ?_
  refine va_get (D := D) (ci := 9) (v := .ref q_bytes) (C := RX9) (T := TX9) (N := 2) hx hb hts hn_X9_byteAt_X9 hown hK hP 0 rfl rfl 0 (by decide) (hts _ hw_X9_byteAt_f9) (fun _ h9 => h9) rfl dX9_byteAt_13 ?_
  refine lv_iload_n hx hb dX9_byteAt_16 rfl (lv_at hl 1 rfl) ?_
  obtain ⟨g_3, hf⟩ := pgd_e hf
  refine va_bald hx hb hK hP 1 0 rfl rfl g_3 dX9_byteAt_17 ?_
  refine lv_sipush (v := (255 : Int32)) hx hb dX9_byteAt_18 (by decide) ?_
  refine lv_iand hx hb dX9_byteAt_21 ?_
  refine lv_goto (tgt := 26) hx hb dX9_byteAt_22 (by decide) ?_
  obtain rfl := pe1 hf
  exact m_iret hx hb hr hlocks hP hS dX9_byteAt_26

/-! ===== OrphanWave$Text.isFigure(I)Z ===== -/
abbrev rm_X9_isFigure : Room := { frames := 1, cells := 0, slots := 0, locals := 21 }
abbrev w_X9_isFigure (a0 : Nat) (q_bytes : Nat) (cA : Nat → ClassId) (s_length : Int32) (s_bytes : Nat → Int32) : va_W := [(a0, .inr (9, [.ref q_bytes, .int s_length])), (q_bytes, .inl (cA 0, 400, .inl s_bytes))]

def f_X9_isFigure (x1 : Int32) (s_length : Int32) (s_bytes : Nat → Int32) : Option ((Int32)) :=
  pcl (f_X9_byteAt x1 s_length s_bytes) (fun r_1 => (
  pbr (r_1 < (48 : Int32))
    (some ((0 : Int32)))
    (pbr ((57 : Int32) < r_1)
      (some ((0 : Int32)))
      (some ((1 : Int32))))))

set_option maxRecDepth 100000 in
set_option maxHeartbeats 4000000 in
theorem ct_X9_isFigure (l : Launch) (D : va_G) (cA : Nat → ClassId) (x1 : Int32) (a0 : Nat) (q_bytes : Nat) (s_length : Int32) (s_bytes : Nat → Int32) (o_r : Int32) (hf : f_X9_isFigure x1 s_length s_bytes = some o_r) : CT l yX9_isFigure wsX9_isFigure rm_X9_isFigure D cA [.ref a0, .int x1] (w_X9_isFigure a0 q_bytes cA s_length s_bytes) (w_X9_isFigure a0 q_bytes cA s_length s_bytes) (some (.int o_r)) := by
  refine CT.ofW (cc := cX9_isFigure) (maxL := 3) (ret := (some .boolean)) (by decide +kernel) rfl (Nat.le_of_ble_eq_true rfl) ?_
  intro p e s m below meth c A C0 hA hP hD ls hl
  have C0 : MX p s m [.ref a0, .int x1].toArray meth c cX9_isFigure 3 wsX9_isFigure RX9 (some .boolean) D cA := C0
  have hl : lv_has ls 3 [(0, .ref a0), (1, .int x1)] := hl
  obtain ⟨hx, hb, hml, hown, hts, hr, hlocks, hX⟩ := id C0
  have hK := hX.1
  have hN := hX.2
  have hS : va_S A s.heap s.heap [] := va_S.rf
  unfold f_X9_isFigure at hf
  refine lv_aload_n hx hb dX9_isFigure_0 rfl (lv_at hl 0 rfl) ?_
  refine lv_iload_n hx hb dX9_isFigure_1 rfl (lv_at hl 1 rfl) ?_
  obtain ⟨r_1, hc_2, hf⟩ := pcl_e hf
  refine m_callV2 (As := [.int x1]) (rest := []) ⟨hx, hb, hml, hown, hts⟩ hX (ct_X9_byteAt l D cA x1 a0 q_bytes s_length s_bytes r_1 hc_2) (cwV 1 hts gX9_isFigure_X9_byteAt rfl rfl rfl (by decide +kernel) ⟨Nat.le_of_ble_eq_true rfl, Nat.le_of_ble_eq_true rfl⟩) hP hD hS hA [0, 1] [] 2 (by decide) rfl rfl (WS' := (w_X9_isFigure a0 q_bytes cA s_length s_bytes)) (WR := []) rfl rfl rfl rfl (by decide) (by decide) 0 9 rfl rfl rfl hl.1 rfl (st' := [.int r_1]) rfl (Nat.le_of_ble_eq_true rfl) ⟨Nat.zero_le _, Nat.zero_le _⟩ dX9_isFigure_2 (fun H locs hP hD hS => ?_)
  refine lv_istore_n (lv' := [(2, .int r_1), (0, .ref a0), (1, .int x1)]) hx hb dX9_isFigure_5 rfl hl (by decide) rfl (fun ls hl => ?_)
  refine lv_iload_n hx hb dX9_isFigure_6 rfl (lv_at hl 0 rfl) ?_
  refine lv_bipush (v := (48 : Int32)) hx hb dX9_isFigure_7 (by decide) ?_
  refine lv_icmp_lt (tgt := 22) hx hb dX9_isFigure_9 (by decide) (fun c_3 => ?_) (fun c_3 => ?_)
  · have hf := pbr_t c_3 hf
    refine lv_iconst (v := (0 : Int32)) hx hb dX9_isFigure_22 (by decide) ?_
    obtain rfl := pe1 hf
    exact m_zret (by decide) hx hb hr hlocks hP hS dX9_isFigure_23
  have hf := pbr_f c_3 hf
  refine lv_iload_n hx hb dX9_isFigure_12 rfl (lv_at hl 0 rfl) ?_
  refine lv_bipush (v := (57 : Int32)) hx hb dX9_isFigure_13 (by decide) ?_
  refine lv_icmp_gt (tgt := 22) hx hb dX9_isFigure_15 (by decide) (fun c_4 => ?_) (fun c_4 => ?_)
  · have hf := pbr_t c_4 hf
    refine lv_iconst (v := (0 : Int32)) hx hb dX9_isFigure_22 (by decide) ?_
    obtain rfl := pe1 hf
    exact m_zret (by decide) hx hb hr hlocks hP hS dX9_isFigure_23
  have hf := pbr_f c_4 hf
  refine lv_iconst (v := (1 : Int32)) hx hb dX9_isFigure_18 (by decide) ?_
  refine lv_goto (tgt := 23) hx hb dX9_isFigure_19 (by decide) ?_
  obtain rfl := pe1 hf
  exact m_zret (by decide) hx hb hr hlocks hP hS dX9_isFigure_23

/-! ===== OrphanWave$Text.figuresEnd(I)I ===== -/
abbrev rm_X9_figuresEnd : Room := { frames := 2, cells := 0, slots := 0, locals := 43 }
abbrev w_X9_figuresEnd (a0 : Nat) (q_bytes : Nat) (cA : Nat → ClassId) (s_length : Int32) (s_bytes : Nat → Int32) : va_W := [(a0, .inr (9, [.ref q_bytes, .int s_length])), (q_bytes, .inl (cA 0, 400, .inl s_bytes))]
theorem hn_X9_figuresEnd_X9 : ∀ w ∈ u_ws RX9 TX9 2, w ∈ wsX9_figuresEnd := by decide +kernel
theorem hw_X9_figuresEnd_f15 : Cond.fieldLink RX9 15 "OrphanWave$Text" "length" "I" ∈ wsX9_figuresEnd := by decide +kernel

def f_X9_figuresEnd_2 (s_length : Int32) (s_bytes : Nat → Int32) (x1 : Int32) : Nat → (Int32) → Option ((Int32))
  | 0, _ => none
  | k + 1, x2 =>
    pbr (s_length ≤ x2)
      (some (x2))
      (pcl (f_X9_isFigure x2 s_length s_bytes) (fun r_2 => (
      pbr (r_2 = 0)
        (some (x2))
        (plt (x2 + (1 : Int32) : Int32) (fun x2_5 => (
        (f_X9_figuresEnd_2 s_length s_bytes x1 k) x2_5))))))

set_option maxRecDepth 100000 in
set_option maxHeartbeats 4000000 in
theorem k_X9_figuresEnd_2 {p : Program} {l : Launch} {e : Env} {s : State} {m : MethodId} {args : Array Value} {below : List Frame} {meth : Method} {c : Code} {A : Nat → Prop} {D : va_G} {cA : Nat → ClassId} (C0 : MX p s m args meth c cX9_figuresEnd 3 wsX9_figuresEnd RX9 (some .int) D cA) (hA : ∀ q, s.heap.size ≤ q → A q) {a0 : Nat} {q_bytes : Nat} {s_length : Int32} {s_bytes : Nat → Int32} {x1 : Int32} {o_r : Int32} : ∀ (k : Nat) (x2 : Int32), f_X9_figuresEnd_2 s_length s_bytes x1 k x2 = some o_r → ∀ (H : Heap) (locs : List Loc), va_P D vwCl (w_X9_figuresEnd a0 q_bytes cA s_length s_bytes) H → va_D A (w_X9_figuresEnd a0 q_bytes cA s_length s_bytes) → va_S A s.heap H locs → ∀ ls : Array Slot, lv_has ls 3 [(0, .ref a0), (2, .int x2)] → W p l e rm_X9_figuresEnd s m args below meth c H locs 0 0 (MQ below (CQ D (some (.int o_r)) (w_X9_figuresEnd a0 q_bytes cA s_length s_bytes) A) args s 0 0 A) (F0 m 2 ls []) := by
  obtain ⟨hx, hb, hml, hown, hts, hr, hlocks, hX⟩ := C0
  have hK := hX.1
  have hN := hX.2
  intro k
  induction k with
  | zero =>
    intro x2 hf
    cases hf
  | succ k ih =>
    intro x2 hf H locs hP hD hS ls hl
    rw [f_X9_figuresEnd_2] at hf
    refine lv_iload_n hx hb dX9_figuresEnd_2 rfl (lv_at hl 1 rfl) ?_
    refine lv_aload_n hx hb dX9_figuresEnd_3 rfl (lv_at hl 0 rfl) ?_
    refine va_get (D := D) (ci := 9) (v := .int s_length) (C := RX9) (T := TX9) (N := 2) hx hb hts hn_X9_figuresEnd_X9 hown hK hP 0 rfl rfl 1 (by decide) (hts _ hw_X9_figuresEnd_f15) (fun _ h9 => h9) rfl dX9_figuresEnd_4 ?_
    refine lv_icmp_ge (tgt := 24) hx hb dX9_figuresEnd_7 (by decide) (fun c_1 => ?_) (fun c_1 => ?_)
    · have hf := pbr_t c_1 hf
      refine lv_iload_n hx hb dX9_figuresEnd_24 rfl (lv_at hl 1 rfl) ?_
      obtain rfl := pe1 hf
      exact m_iret hx hb hr hlocks hP hS dX9_figuresEnd_25
    have hf := pbr_f c_1 hf
    refine lv_aload_n hx hb dX9_figuresEnd_10 rfl (lv_at hl 0 rfl) ?_
    refine lv_iload_n hx hb dX9_figuresEnd_11 rfl (lv_at hl 1 rfl) ?_
    obtain ⟨r_2, hc_3, hf⟩ := pcl_e hf
    refine m_callV2 (As := [.int x2]) (rest := []) ⟨hx, hb, hml, hown, hts⟩ hX (ct_X9_isFigure l D cA x2 a0 q_bytes s_length s_bytes r_2 hc_3) (cwV 1 hts gX9_figuresEnd_X9_isFigure rfl rfl rfl (by decide +kernel) ⟨Nat.le_of_ble_eq_true rfl, Nat.le_of_ble_eq_true rfl⟩) hP hD hS hA [0, 1] [] 2 (by decide) rfl rfl (WS' := (w_X9_figuresEnd a0 q_bytes cA s_length s_bytes)) (WR := []) rfl rfl rfl rfl (by decide) (by decide) 0 9 rfl rfl rfl hl.1 rfl (st' := [.int r_2]) rfl (Nat.le_of_ble_eq_true rfl) ⟨Nat.zero_le _, Nat.zero_le _⟩ dX9_figuresEnd_12 (fun H locs hP hD hS => ?_)
    refine lv_if_eq (tgt := 24) hx hb dX9_figuresEnd_15 (by decide) (fun c_4 => ?_) (fun c_4 => ?_)
    · have hf := pbr_t c_4 hf
      refine lv_iload_n hx hb dX9_figuresEnd_24 rfl (lv_at hl 1 rfl) ?_
      obtain rfl := pe1 hf
      exact m_iret hx hb hr hlocks hP hS dX9_figuresEnd_25
    have hf := pbr_f c_4 hf
    obtain ⟨x2_5, ex2_5⟩ : ∃ z : Int32, z = x2 + (1 : Int32) := ⟨_, rfl⟩
    have hf := plt_e ex2_5 hf
    refine lv_iinc (v := x2_5) (lv' := [(2, .int x2_5), (0, .ref a0)]) hx hb dX9_figuresEnd_18 hl (k := 1) rfl (by rw [ex2_5]; rfl) (by decide) rfl (fun ls hl => ?_)
    refine lv_goto (tgt := 2) hx hb dX9_figuresEnd_21 (by decide) ?_
    exact ih x2_5 hf _ _ hP hD hS ls (lv_sub hl [1, 0] rfl)

def f_X9_figuresEnd (x1 : Int32) (s_length : Int32) (s_bytes : Nat → Int32) : Option ((Int32)) :=
  f_X9_figuresEnd_2 s_length s_bytes x1 FU x1

set_option maxRecDepth 100000 in
set_option maxHeartbeats 4000000 in
theorem ct_X9_figuresEnd (l : Launch) (D : va_G) (cA : Nat → ClassId) (x1 : Int32) (a0 : Nat) (q_bytes : Nat) (s_length : Int32) (s_bytes : Nat → Int32) (o_r : Int32) (hf : f_X9_figuresEnd x1 s_length s_bytes = some o_r) : CT l yX9_figuresEnd wsX9_figuresEnd rm_X9_figuresEnd D cA [.ref a0, .int x1] (w_X9_figuresEnd a0 q_bytes cA s_length s_bytes) (w_X9_figuresEnd a0 q_bytes cA s_length s_bytes) (some (.int o_r)) := by
  refine CT.ofW (cc := cX9_figuresEnd) (maxL := 3) (ret := (some .int)) (by decide +kernel) rfl (Nat.le_of_ble_eq_true rfl) ?_
  intro p e s m below meth c A C0 hA hP hD ls hl
  have C0 : MX p s m [.ref a0, .int x1].toArray meth c cX9_figuresEnd 3 wsX9_figuresEnd RX9 (some .int) D cA := C0
  have hl : lv_has ls 3 [(0, .ref a0), (1, .int x1)] := hl
  obtain ⟨hx, hb, hml, hown, hts, hr, hlocks, hX⟩ := id C0
  have hK := hX.1
  have hN := hX.2
  have hS : va_S A s.heap s.heap [] := va_S.rf
  unfold f_X9_figuresEnd at hf
  refine lv_iload_n hx hb dX9_figuresEnd_0 rfl (lv_at hl 1 rfl) ?_
  refine lv_istore_n (lv' := [(2, .int x1), (0, .ref a0), (1, .int x1)]) hx hb dX9_figuresEnd_1 rfl hl (by decide) rfl (fun ls hl => ?_)
  exact k_X9_figuresEnd_2 C0 hA FU x1 hf _ _ hP hD hS ls (lv_sub hl [1, 0] rfl)
