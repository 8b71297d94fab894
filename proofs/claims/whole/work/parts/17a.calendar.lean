/-! ===== OrphanWave$Calendar.endsYear(I)Z ===== -/
abbrev rm_X1_endsYear : Room := { frames := 0, cells := 0, slots := 0, locals := 0 }
abbrev w_X1_endsYear (a0 : Nat) (q_months : Nat) (q_lengths : Nat) (cA : Nat → ClassId) (s_years : Int32) (s_months : Nat → Int32) : va_W := [(a0, .inr (1, [.ref q_lengths, .ref q_months, .int s_years])), (q_months, .inl (cA 1, 8, .inl s_months))]
theorem hn_X1_endsYear_X1 : ∀ w ∈ u_ws RX1 TX1 3, w ∈ wsX1_endsYear := by decide +kernel
theorem hw_X1_endsYear_f20 : Cond.fieldLink RX1 20 "OrphanWave$Calendar" "years" "I" ∈ wsX1_endsYear := by decide +kernel
theorem hw_X1_endsYear_f16 : Cond.fieldLink RX1 16 "OrphanWave$Calendar" "months" "[I" ∈ wsX1_endsYear := by decide +kernel

def f_X1_endsYear (x1 : Int32) (s_years : Int32) (s_months : Nat → Int32) : Option ((Int32) × (Int32) × (Nat → Int32)) :=
  pbr ((8 : Int32) ≤ s_years)
    (some ((0 : Int32), s_years, s_months))
    (pbr ((12 : Int32) ≤ x1)
      (plt ((s_years + (1 : Int32)) : Int32) (fun years_3 => (
      pgd (pin s_years 8) (
      plt (upd s_months s_years.toNatClampNeg x1 : Nat → Int32) (fun f_5 => (
      some ((1 : Int32), years_3, f_5)))))))
      (some ((0 : Int32), s_years, s_months)))

set_option maxRecDepth 100000 in
set_option maxHeartbeats 4000000 in
theorem ct_X1_endsYear (l : Launch) (D : va_G) (cA : Nat → ClassId) (x1 : Int32) (a0 : Nat) (q_months : Nat) (q_lengths : Nat) (s_years : Int32) (s_months : Nat → Int32) (o_r : Int32) (o_years : Int32) (o_months : Nat → Int32) (hf : f_X1_endsYear x1 s_years s_months = some (o_r, o_years, o_months)) : CT l yX1_endsYear wsX1_endsYear rm_X1_endsYear D cA [.ref a0, .int x1] (w_X1_endsYear a0 q_months q_lengths cA s_years s_months) (w_X1_endsYear a0 q_months q_lengths cA o_years o_months) (some (.int o_r)) := by
  refine CT.ofW (cc := cX1_endsYear) (maxL := 2) (ret := (some .boolean)) (by decide +kernel) rfl (Nat.le_of_ble_eq_true rfl) ?_
  intro p e s m below meth c A C0 hA hP hD ls hl
  have C0 : MX p s m [.ref a0, .int x1].toArray meth c cX1_endsYear 2 wsX1_endsYear RX1 (some .boolean) D cA := C0
  have hl : lv_has ls 2 [(0, .ref a0), (1, .int x1)] := hl
  obtain ⟨hx, hb, hml, hown, hts, hr, hlocks, hX⟩ := id C0
  have hK := hX.1
  have hN := hX.2
  have hS : va_S A s.heap s.heap [] := va_S.rf
  unfold f_X1_endsYear at hf
  refine lv_aload_n hx hb dX1_endsYear_0 rfl (lv_at hl 0 rfl) ?_
  refine va_get (D := D) (ci := 1) (v := .int s_years) (C := RX1) (T := TX1) (N := 3) hx hb hts hn_X1_endsYear_X1 hown hK hP 0 rfl rfl 2 (by decide) (hts _ hw_X1_endsYear_f20) (fun _ h9 => h9) rfl dX1_endsYear_1 ?_
  refine lv_bipush (v := (8 : Int32)) hx hb dX1_endsYear_4 (by decide) ?_
  refine lv_icmp_ge (tgt := 15) hx hb dX1_endsYear_6 (by decide) (fun c_1 => ?_) (fun c_1 => ?_)
  · have hf := pbr_t c_1 hf
    refine lv_iconst (v := (0 : Int32)) hx hb dX1_endsYear_15 (by decide) ?_
    obtain ⟨rfl, rfl, rfl⟩ := pe3 hf
    exact m_zret (by decide) hx hb hr hlocks hP hS dX1_endsYear_16
  have hf := pbr_f c_1 hf
  refine lv_iload_n hx hb dX1_endsYear_9 rfl (lv_at hl 1 rfl) ?_
  refine lv_bipush (v := (12 : Int32)) hx hb dX1_endsYear_10 (by decide) ?_
  refine lv_icmp_ge (tgt := 17) hx hb dX1_endsYear_12 (by decide) (fun c_2 => ?_) (fun c_2 => ?_)
  · have hf := pbr_t c_2 hf
    refine lv_aload_n hx hb dX1_endsYear_17 rfl (lv_at hl 0 rfl) ?_
    refine va_get (D := D) (ci := 1) (v := .ref q_months) (C := RX1) (T := TX1) (N := 3) hx hb hts hn_X1_endsYear_X1 hown hK hP 0 rfl rfl 1 (by decide) (hts _ hw_X1_endsYear_f16) (fun _ h9 => h9) rfl dX1_endsYear_18 ?_
    refine lv_aload_n hx hb dX1_endsYear_21 rfl (lv_at hl 0 rfl) ?_
    refine lv_dup hx hb dX1_endsYear_22 rfl ?_
    refine va_get (D := D) (ci := 1) (v := .int s_years) (C := RX1) (T := TX1) (N := 3) hx hb hts hn_X1_endsYear_X1 hown hK hP 0 rfl rfl 2 (by decide) (hts _ hw_X1_endsYear_f20) (fun _ h9 => h9) rfl dX1_endsYear_23 ?_
    refine lv_dup_x1 hx hb dX1_endsYear_26 rfl rfl ?_
    refine lv_iconst (v := (1 : Int32)) hx hb dX1_endsYear_27 (by decide) ?_
    refine lv_iadd hx hb dX1_endsYear_28 ?_
    refine lv_topi (fun years_3 eyears_3 => ?_)
    have hf := plt_e eyears_3 hf
    refine va_put (D := D) (ci := 1) (v := .int years_3) (ty := .int) (C := RX1) (T := TX1) (N := 3) hx hb hts hn_X1_endsYear_X1 tyX1 tyX1_ok nmX1 hown hK hP hD hS 0 rfl rfl 2 (by decide) (hts _ hw_X1_endsYear_f20) (fun _ h9 => h9) rfl (by decide +kernel) rfl rfl (Nat.le_of_ble_eq_true rfl) dX1_endsYear_29 (fun H locs hP hD hS => ?_)
    have hP : va_P D vwCl (w_X1_endsYear a0 q_months q_lengths cA years_3 s_months) H := hP
    have hD : va_D A (w_X1_endsYear a0 q_months q_lengths cA years_3 s_months) := hD
    refine lv_iload_n hx hb dX1_endsYear_32 rfl (lv_at hl 1 rfl) ?_
    obtain ⟨g_4, hf⟩ := pgd_e hf
    refine va_iast hx hb hK hP hD hS 1 1 rfl rfl g_4 dX1_endsYear_33 (fun H locs hP hD hS => ?_)
    obtain ⟨f_5, ef_5⟩ : ∃ z : Nat → Int32, z = upd s_months s_years.toNatClampNeg x1 := ⟨_, rfl⟩
    have hf := plt_e ef_5 hf
    have hP : va_P D vwCl (w_X1_endsYear a0 q_months q_lengths cA years_3 f_5) H := by rw [ef_5]; exact hP
    have hD : va_D A (w_X1_endsYear a0 q_months q_lengths cA years_3 f_5) := by rw [ef_5]; exact hD
    refine lv_iconst (v := (1 : Int32)) hx hb dX1_endsYear_34 (by decide) ?_
    obtain ⟨rfl, rfl, rfl⟩ := pe3 hf
    exact m_zret (by decide) hx hb hr hlocks hP hS dX1_endsYear_35
  have hf := pbr_f c_2 hf
  refine lv_iconst (v := (0 : Int32)) hx hb dX1_endsYear_15 (by decide) ?_
  obtain ⟨rfl, rfl, rfl⟩ := pe3 hf
  exact m_zret (by decide) hx hb hr hlocks hP hS dX1_endsYear_16

/-! ===== OrphanWave$Calendar.lengthAt(LOrphanWave$Text;II)I ===== -/
abbrev rm_X1_lengthAt : Room := { frames := 2, cells := 0, slots := 0, locals := 43 }
abbrev w_X1_lengthAt (b0 : Nat) (b0_bytes : Nat) (cA : Nat → ClassId) (s_b0_length : Int32) (s_b0_bytes : Nat → Int32) : va_W := [(b0, .inr (9, [.ref b0_bytes, .int s_b0_length])), (b0_bytes, .inl (cA 0, 400, .inl s_b0_bytes))]

def f_X1_lengthAt (x1 : Int32) (x2 : Int32) (s_b0_length : Int32) (s_b0_bytes : Nat → Int32) : Option ((Int32)) :=
  pbr ((x2 - x1) = (2 : Int32))
    (pcl (f_X9_isFigure x1 s_b0_length s_b0_bytes) (fun r_2 => (
    pbr (r_2 = 0)
      (some ((-9 : Int32)))
      (pcl (f_X9_byteAt x1 s_b0_length s_b0_bytes) (fun r_5 => (
      pcl (f_X9_byteAt (x1 + (1 : Int32)) s_b0_length s_b0_bytes) (fun r_7 => (
      plt (((((10 : Int32) * (r_5 - (48 : Int32))) + r_7) - (48 : Int32)) : Int32) (fun x3_9 => (
      pbr (x3_9 = (29 : Int32))
        (some (x3_9))
        (pbr (x3_9 = (30 : Int32))
          (some (x3_9))
          (some ((-9 : Int32))))))))))))))
    (some ((-9 : Int32)))

set_option maxRecDepth 100000 in
set_option maxHeartbeats 4000000 in
theorem ct_X1_lengthAt (l : Launch) (D : va_G) (cA : Nat → ClassId) (x1 : Int32) (x2 : Int32) (b0 : Nat) (b0_bytes : Nat) (s_b0_length : Int32) (s_b0_bytes : Nat → Int32) (o_r : Int32) (hf : f_X1_lengthAt x1 x2 s_b0_length s_b0_bytes = some o_r) : CT l yX1_lengthAt wsX1_lengthAt rm_X1_lengthAt D cA [.ref b0, .int x1, .int x2] (w_X1_lengthAt b0 b0_bytes cA s_b0_length s_b0_bytes) (w_X1_lengthAt b0 b0_bytes cA s_b0_length s_b0_bytes) (some (.int o_r)) := by
  refine CT.ofW (cc := cX1_lengthAt) (maxL := 4) (ret := (some .int)) (by decide +kernel) rfl (Nat.le_of_ble_eq_true rfl) ?_
  intro p e s m below meth c A C0 hA hP hD ls hl
  have C0 : MX p s m [.ref b0, .int x1, .int x2].toArray meth c cX1_lengthAt 4 wsX1_lengthAt RX1 (some .int) D cA := C0
  have hl : lv_has ls 4 [(0, .ref b0), (1, .int x1), (2, .int x2)] := hl
  obtain ⟨hx, hb, hml, hown, hts, hr, hlocks, hX⟩ := id C0
  have hK := hX.1
  have hN := hX.2
  have hS : va_S A s.heap s.heap [] := va_S.rf
  unfold f_X1_lengthAt at hf
  refine lv_iload_n hx hb dX1_lengthAt_0 rfl (lv_at hl 2 rfl) ?_
  refine lv_iload_n hx hb dX1_lengthAt_1 rfl (lv_at hl 1 rfl) ?_
  refine lv_isub hx hb dX1_lengthAt_2 ?_
  refine lv_iconst (v := (2 : Int32)) hx hb dX1_lengthAt_3 (by decide) ?_
  refine lv_icmp_ne (tgt := 15) hx hb dX1_lengthAt_4 (by decide) (fun c_1 => ?_) (fun c_1 => ?_)
  · have hf := pbr_f c_1 hf
    refine lv_bipush (v := (-9 : Int32)) hx hb dX1_lengthAt_15 (by decide) ?_
    obtain rfl := pe1 hf
    exact m_iret hx hb hr hlocks hP hS dX1_lengthAt_17
  have hf := pbr_t c_1 hf
  refine lv_aload_n hx hb dX1_lengthAt_7 rfl (lv_at hl 0 rfl) ?_
  refine lv_iload_n hx hb dX1_lengthAt_8 rfl (lv_at hl 1 rfl) ?_
  obtain ⟨r_2, hc_3, hf⟩ := pcl_e hf
  refine m_callV2 (As := [.int x1]) (rest := []) ⟨hx, hb, hml, hown, hts⟩ hX (ct_X9_isFigure l D cA x1 b0 b0_bytes s_b0_length s_b0_bytes r_2 hc_3) (cwV 1 hts gX1_lengthAt_X9_isFigure rfl rfl rfl (by decide +kernel) ⟨Nat.le_of_ble_eq_true rfl, Nat.le_of_ble_eq_true rfl⟩) hP hD hS hA [0, 1] [] 2 (by decide) rfl rfl (WS' := (w_X1_lengthAt b0 b0_bytes cA s_b0_length s_b0_bytes)) (WR := []) rfl rfl rfl rfl (by decide) (by decide) 0 9 rfl rfl rfl hl.1 rfl (st' := [.int r_2]) rfl (Nat.le_of_ble_eq_true rfl) ⟨Nat.zero_le _, Nat.zero_le _⟩ dX1_lengthAt_9 (fun H locs hP hD hS => ?_)
  refine lv_if_ne (tgt := 18) hx hb dX1_lengthAt_12 (by decide) (fun c_4 => ?_) (fun c_4 => ?_)
  · have hf := pbr_f c_4 hf
    refine lv_bipush (v := (10 : Int32)) hx hb dX1_lengthAt_18 (by decide) ?_
    refine lv_aload_n hx hb dX1_lengthAt_20 rfl (lv_at hl 0 rfl) ?_
    refine lv_iload_n hx hb dX1_lengthAt_21 rfl (lv_at hl 1 rfl) ?_
    obtain ⟨r_5, hc_6, hf⟩ := pcl_e hf
    refine m_callV2 (As := [.int x1]) (rest := [.int (10 : Int32)]) ⟨hx, hb, hml, hown, hts⟩ hX (ct_X9_byteAt l D cA x1 b0 b0_bytes s_b0_length s_b0_bytes r_5 hc_6) (cwV 1 hts gX1_lengthAt_X9_byteAt rfl rfl rfl (by decide +kernel) ⟨Nat.le_of_ble_eq_true rfl, Nat.le_of_ble_eq_true rfl⟩) hP hD hS hA [0, 1] [] 2 (by decide) rfl rfl (WS' := (w_X1_lengthAt b0 b0_bytes cA s_b0_length s_b0_bytes)) (WR := []) rfl rfl rfl rfl (by decide) (by decide) 0 9 rfl rfl rfl hl.1 rfl (st' := [.int r_5, .int (10 : Int32)]) rfl (Nat.le_of_ble_eq_true rfl) ⟨Nat.zero_le _, Nat.zero_le _⟩ dX1_lengthAt_22 (fun H locs hP hD hS => ?_)
    refine lv_bipush (v := (48 : Int32)) hx hb dX1_lengthAt_25 (by decide) ?_
    refine lv_isub hx hb dX1_lengthAt_27 ?_
    refine lv_imul hx hb dX1_lengthAt_28 ?_
    refine lv_aload_n hx hb dX1_lengthAt_29 rfl (lv_at hl 0 rfl) ?_
    refine lv_iload_n hx hb dX1_lengthAt_30 rfl (lv_at hl 1 rfl) ?_
    refine lv_iconst (v := (1 : Int32)) hx hb dX1_lengthAt_31 (by decide) ?_
    refine lv_iadd hx hb dX1_lengthAt_32 ?_
    obtain ⟨r_7, hc_8, hf⟩ := pcl_e hf
    refine m_callV2 (As := [.int (x1 + (1 : Int32))]) (rest := [.int ((10 : Int32) * (r_5 - (48 : Int32)))]) ⟨hx, hb, hml, hown, hts⟩ hX (ct_X9_byteAt l D cA (x1 + (1 : Int32)) b0 b0_bytes s_b0_length s_b0_bytes r_7 hc_8) (cwV 1 hts gX1_lengthAt_X9_byteAt rfl rfl rfl (by decide +kernel) ⟨Nat.le_of_ble_eq_true rfl, Nat.le_of_ble_eq_true rfl⟩) hP hD hS hA [0, 1] [] 2 (by decide) rfl rfl (WS' := (w_X1_lengthAt b0 b0_bytes cA s_b0_length s_b0_bytes)) (WR := []) rfl rfl rfl rfl (by decide) (by decide) 0 9 rfl rfl rfl hl.1 rfl (st' := [.int r_7, .int ((10 : Int32) * (r_5 - (48 : Int32)))]) rfl (Nat.le_of_ble_eq_true rfl) ⟨Nat.zero_le _, Nat.zero_le _⟩ dX1_lengthAt_33 (fun H locs hP hD hS => ?_)
    refine lv_iadd hx hb dX1_lengthAt_36 ?_
    refine lv_bipush (v := (48 : Int32)) hx hb dX1_lengthAt_37 (by decide) ?_
    refine lv_isub hx hb dX1_lengthAt_39 ?_
    refine lv_topi (fun x3_9 ex3_9 => ?_)
    have hf := plt_e ex3_9 hf
    refine lv_istore_n (lv' := [(3, .int x3_9), (0, .ref b0), (1, .int x1), (2, .int x2)]) hx hb dX1_lengthAt_40 rfl hl (by decide) rfl (fun ls hl => ?_)
    refine lv_iload_n hx hb dX1_lengthAt_41 rfl (lv_at hl 0 rfl) ?_
    refine lv_bipush (v := (29 : Int32)) hx hb dX1_lengthAt_42 (by decide) ?_
    refine lv_icmp_eq (tgt := 53) hx hb dX1_lengthAt_44 (by decide) (fun c_10 => ?_) (fun c_10 => ?_)
    · have hf := pbr_t c_10 hf
      refine lv_iload_n hx hb dX1_lengthAt_53 rfl (lv_at hl 0 rfl) ?_
      refine lv_goto (tgt := 59) hx hb dX1_lengthAt_54 (by decide) ?_
      obtain rfl := pe1 hf
      exact m_iret hx hb hr hlocks hP hS dX1_lengthAt_59
    have hf := pbr_f c_10 hf
    refine lv_iload_n hx hb dX1_lengthAt_47 rfl (lv_at hl 0 rfl) ?_
    refine lv_bipush (v := (30 : Int32)) hx hb dX1_lengthAt_48 (by decide) ?_
    refine lv_icmp_ne (tgt := 57) hx hb dX1_lengthAt_50 (by decide) (fun c_11 => ?_) (fun c_11 => ?_)
    · have hf := pbr_f c_11 hf
      refine lv_bipush (v := (-9 : Int32)) hx hb dX1_lengthAt_57 (by decide) ?_
      obtain rfl := pe1 hf
      exact m_iret hx hb hr hlocks hP hS dX1_lengthAt_59
    have hf := pbr_t c_11 hf
    refine lv_iload_n hx hb dX1_lengthAt_53 rfl (lv_at hl 0 rfl) ?_
    refine lv_goto (tgt := 59) hx hb dX1_lengthAt_54 (by decide) ?_
    obtain rfl := pe1 hf
    exact m_iret hx hb hr hlocks hP hS dX1_lengthAt_59
  have hf := pbr_t c_4 hf
  refine lv_bipush (v := (-9 : Int32)) hx hb dX1_lengthAt_15 (by decide) ?_
  obtain rfl := pe1 hf
  exact m_iret hx hb hr hlocks hP hS dX1_lengthAt_17

/-! ===== OrphanWave$Calendar.takesMonth(II)Z ===== -/
abbrev rm_X1_takesMonth : Room := { frames := 0, cells := 0, slots := 0, locals := 0 }
abbrev wx_X1_takesMonth (a0 : Nat) (q_lengths : Nat) (q_months : Nat) (r_lengths : Nat → Nat) (cA : Nat → ClassId) (s_years : Int32) (s_lengths : Nat → Nat → Int32) : va_W := [(a0, .inr (1, [.ref q_lengths, .ref q_months, .int s_years])), (q_lengths, .inl (cA 5, 8, .inr (.inr (.inr (.inr (gro 8 r_lengths))))))]
abbrev w_X1_takesMonth (a0 : Nat) (q_lengths : Nat) (q_months : Nat) (r_lengths : Nat → Nat) (cA : Nat → ClassId) (s_years : Int32) (s_lengths : Nat → Nat → Int32) : va_W := [(a0, .inr (1, [.ref q_lengths, .ref q_months, .int s_years])), (q_lengths, .inl (cA 5, 8, .inr (.inr (.inr (.inr (gro 8 r_lengths))))))] ++ grw 8 r_lengths (cA 1) 13 s_lengths
theorem hn_X1_takesMonth_X1 : ∀ w ∈ u_ws RX1 TX1 3, w ∈ wsX1_takesMonth := by decide +kernel
theorem hw_X1_takesMonth_f20 : Cond.fieldLink RX1 20 "OrphanWave$Calendar" "years" "I" ∈ wsX1_takesMonth := by decide +kernel
theorem hw_X1_takesMonth_f11 : Cond.fieldLink RX1 11 "OrphanWave$Calendar" "lengths" "[[I" ∈ wsX1_takesMonth := by decide +kernel

def f_X1_takesMonth (x1 : Int32) (x2 : Int32) (s_years : Int32) (s_lengths : Nat → Nat → Int32) : Option ((Int32) × (Nat → Nat → Int32)) :=
  pbr ((8 : Int32) ≤ s_years)
    (some ((0 : Int32), s_lengths))
    (pbr ((13 : Int32) ≤ x1)
      (some ((0 : Int32), s_lengths))
      (pbr (x2 = (-9 : Int32))
        (some ((0 : Int32), s_lengths))
        (pgd (pin s_years 8) (
        pgd (pin x1 13) (
        plt (up2 s_lengths s_years.toNatClampNeg x1.toNatClampNeg x2 : Nat → Nat → Int32) (fun f_6 => (
        some ((1 : Int32), f_6))))))))

set_option maxRecDepth 100000 in
set_option maxHeartbeats 4000000 in
theorem ct_X1_takesMonth (l : Launch) (D : va_G) (cA : Nat → ClassId) (x1 : Int32) (x2 : Int32) (a0 : Nat) (q_lengths : Nat) (q_months : Nat) (r_lengths : Nat → Nat) (s_years : Int32) (s_lengths : Nat → Nat → Int32) (o_r : Int32) (o_lengths : Nat → Nat → Int32) (hf : f_X1_takesMonth x1 x2 s_years s_lengths = some (o_r, o_lengths)) : CT l yX1_takesMonth wsX1_takesMonth rm_X1_takesMonth D cA [.ref a0, .int x1, .int x2] (w_X1_takesMonth a0 q_lengths q_months r_lengths cA s_years s_lengths) (w_X1_takesMonth a0 q_lengths q_months r_lengths cA s_years o_lengths) (some (.int o_r)) := by
  refine CT.ofW (cc := cX1_takesMonth) (maxL := 3) (ret := (some .boolean)) (by decide +kernel) rfl (Nat.le_of_ble_eq_true rfl) ?_
  intro p e s m below meth c A C0 hA hP hD ls hl
  have C0 : MX p s m [.ref a0, .int x1, .int x2].toArray meth c cX1_takesMonth 3 wsX1_takesMonth RX1 (some .boolean) D cA := C0
  have hl : lv_has ls 3 [(0, .ref a0), (1, .int x1), (2, .int x2)] := hl
  obtain ⟨hx, hb, hml, hown, hts, hr, hlocks, hX⟩ := id C0
  have hK := hX.1
  have hN := hX.2
  have hS : va_S A s.heap s.heap [] := va_S.rf
  unfold f_X1_takesMonth at hf
  refine lv_aload_n hx hb dX1_takesMonth_0 rfl (lv_at hl 0 rfl) ?_
  refine va_get (D := D) (ci := 1) (v := .int s_years) (C := RX1) (T := TX1) (N := 3) hx hb hts hn_X1_takesMonth_X1 hown hK hP 0 rfl rfl 2 (by decide) (hts _ hw_X1_takesMonth_f20) (fun _ h9 => h9) rfl dX1_takesMonth_1 ?_
  refine lv_bipush (v := (8 : Int32)) hx hb dX1_takesMonth_4 (by decide) ?_
  refine lv_icmp_ge (tgt := 21) hx hb dX1_takesMonth_6 (by decide) (fun c_1 => ?_) (fun c_1 => ?_)
  · have hf := pbr_t c_1 hf
    refine lv_iconst (v := (0 : Int32)) hx hb dX1_takesMonth_21 (by decide) ?_
    obtain ⟨rfl, rfl⟩ := pe2 hf
    exact m_zret (by decide) hx hb hr hlocks hP hS dX1_takesMonth_22
  have hf := pbr_f c_1 hf
  refine lv_iload_n hx hb dX1_takesMonth_9 rfl (lv_at hl 1 rfl) ?_
  refine lv_bipush (v := (13 : Int32)) hx hb dX1_takesMonth_10 (by decide) ?_
  refine lv_icmp_ge (tgt := 21) hx hb dX1_takesMonth_12 (by decide) (fun c_2 => ?_) (fun c_2 => ?_)
  · have hf := pbr_t c_2 hf
    refine lv_iconst (v := (0 : Int32)) hx hb dX1_takesMonth_21 (by decide) ?_
    obtain ⟨rfl, rfl⟩ := pe2 hf
    exact m_zret (by decide) hx hb hr hlocks hP hS dX1_takesMonth_22
  have hf := pbr_f c_2 hf
  refine lv_iload_n hx hb dX1_takesMonth_15 rfl (lv_at hl 2 rfl) ?_
  refine lv_bipush (v := (-9 : Int32)) hx hb dX1_takesMonth_16 (by decide) ?_
  refine lv_icmp_ne (tgt := 23) hx hb dX1_takesMonth_18 (by decide) (fun c_3 => ?_) (fun c_3 => ?_)
  · have hf := pbr_f c_3 hf
    refine lv_aload_n hx hb dX1_takesMonth_23 rfl (lv_at hl 0 rfl) ?_
    refine va_get (D := D) (ci := 1) (v := .ref q_lengths) (C := RX1) (T := TX1) (N := 3) hx hb hts hn_X1_takesMonth_X1 hown hK hP 0 rfl rfl 0 (by decide) (hts _ hw_X1_takesMonth_f11) (fun _ h9 => h9) rfl dX1_takesMonth_24 ?_
    refine lv_aload_n hx hb dX1_takesMonth_27 rfl (lv_at hl 0 rfl) ?_
    refine va_get (D := D) (ci := 1) (v := .int s_years) (C := RX1) (T := TX1) (N := 3) hx hb hts hn_X1_takesMonth_X1 hown hK hP 0 rfl rfl 2 (by decide) (hts _ hw_X1_takesMonth_f20) (fun _ h9 => h9) rfl dX1_takesMonth_28 ?_
    obtain ⟨g_4, hf⟩ := pgd_e hf
    refine m_aald hx hb hK hP 1 rfl g_4 dX1_takesMonth_31 ?_
    refine lv_iload_n hx hb dX1_takesMonth_32 rfl (lv_at hl 1 rfl) ?_
    refine lv_iload_n hx hb dX1_takesMonth_33 rfl (lv_at hl 2 rfl) ?_
    obtain ⟨g_5, hf⟩ := pgd_e hf
    refine m_rast (i := s_years) hx hb hK hP hD hS rfl g_4 g_5 dX1_takesMonth_34 (fun H locs hP hD hS => ?_)
    obtain ⟨f_6, ef_6⟩ : ∃ z : Nat → Nat → Int32, z = up2 s_lengths s_years.toNatClampNeg x1.toNatClampNeg x2 := ⟨_, rfl⟩
    have hf := plt_e ef_6 hf
    have hP : va_P D vwCl (w_X1_takesMonth a0 q_lengths q_months r_lengths cA s_years f_6) H := by rw [ef_6]; exact hP
    have hD : va_D A (w_X1_takesMonth a0 q_lengths q_months r_lengths cA s_years f_6) := by rw [ef_6]; exact hD
    refine lv_iconst (v := (1 : Int32)) hx hb dX1_takesMonth_35 (by decide) ?_
    obtain ⟨rfl, rfl⟩ := pe2 hf
    exact m_zret (by decide) hx hb hr hlocks hP hS dX1_takesMonth_36
  have hf := pbr_t c_3 hf
  refine lv_iconst (v := (0 : Int32)) hx hb dX1_takesMonth_21 (by decide) ?_
  obtain ⟨rfl, rfl⟩ := pe2 hf
  exact m_zret (by decide) hx hb hr hlocks hP hS dX1_takesMonth_22

/-! ===== OrphanWave$Calendar.become(LOrphanWave$Text;)I ===== -/
abbrev rm_X1_become : Room := { frames := 3, cells := 0, slots := 0, locals := 66 }
abbrev wx_X1_become (a0 : Nat) (b1 : Nat) (b1_bytes : Nat) (q_months : Nat) (q_lengths : Nat) (r_lengths : Nat → Nat) (cA : Nat → ClassId) (s_years : Int32) (s_b1_length : Int32) (s_b1_bytes : Nat → Int32) (s_months : Nat → Int32) (s_lengths : Nat → Nat → Int32) : va_W := [(a0, .inr (1, [.ref q_lengths, .ref q_months, .int s_years])), (b1, .inr (9, [.ref b1_bytes, .int s_b1_length])), (b1_bytes, .inl (cA 0, 400, .inl s_b1_bytes)), (q_months, .inl (cA 1, 8, .inl s_months)), (q_lengths, .inl (cA 5, 8, .inr (.inr (.inr (.inr (gro 8 r_lengths))))))]
abbrev w_X1_become (a0 : Nat) (b1 : Nat) (b1_bytes : Nat) (q_months : Nat) (q_lengths : Nat) (r_lengths : Nat → Nat) (cA : Nat → ClassId) (s_years : Int32) (s_b1_length : Int32) (s_b1_bytes : Nat → Int32) (s_months : Nat → Int32) (s_lengths : Nat → Nat → Int32) : va_W := [(a0, .inr (1, [.ref q_lengths, .ref q_months, .int s_years])), (b1, .inr (9, [.ref b1_bytes, .int s_b1_length])), (b1_bytes, .inl (cA 0, 400, .inl s_b1_bytes)), (q_months, .inl (cA 1, 8, .inl s_months)), (q_lengths, .inl (cA 5, 8, .inr (.inr (.inr (.inr (gro 8 r_lengths))))))] ++ grw 8 r_lengths (cA 1) 13 s_lengths
theorem hn_X1_become_X1 : ∀ w ∈ u_ws RX1 TX1 3, w ∈ wsX1_become := by decide +kernel
theorem hn_X1_become_X9 : ∀ w ∈ u_ws RX9 TX9 2, w ∈ wsX1_become := by decide +kernel
theorem hw_X1_become_f20 : Cond.fieldLink RX1 20 "OrphanWave$Calendar" "years" "I" ∈ wsX1_become := by decide +kernel
theorem hw_X1_become_m33 : Cond.methodLink RX1 33 Lib.Math.max.name ∈ wsX1_become := by decide +kernel
theorem hw_X1_become_smax : Cond.static Lib.Math.max.name ∈ wsX1_become := by decide +kernel
theorem hw_X1_become_imath : Cond.initialized "java/lang/Math" ∈ wsX1_become := by decide +kernel
theorem hw_X1_become_kmax : Cond.code Lib.Math.max.name Lib.Math.max.code 2 (some .int) ∈ wsX1_become := by decide +kernel

def f_X1_become_9 (s_b1_length : Int32) (s_b1_bytes : Nat → Int32) : Nat → (Int32) → (Int32) → (Int32) → (Nat → Int32) → (Nat → Nat → Int32) → Option ((Int32) × (Int32) × (Nat → Int32) × (Nat → Nat → Int32))
  | 0, _, _, _, _, _ => none
  | k + 1, x2, x3, s_years, s_months, s_lengths =>
    pbr (s_b1_length ≤ x3)
      (pbr (x2 ≤ 0)
        (some ((-1 : Int32), s_years, s_months, s_lengths))
        (some (s_b1_length, s_years, s_months, s_lengths)))
      (pcl (f_X9_figuresEnd x3 s_b1_length s_b1_bytes) (fun r_3 => (
      plt ((if (x3 + (1 : Int32)) < r_3 then r_3 else (x3 + (1 : Int32))) : Int32) (fun x4_5 => (
      pcl (f_X9_byteAt x3 s_b1_length s_b1_bytes) (fun r_6 => (
      pbr (r_6 = (59 : Int32))
        (pcl (f_X1_endsYear x2 s_years s_months) (fun (r_19, years_20, months_21) => (
        pbr (r_19 = 0)
          (some (x3, years_20, months_21, s_lengths))
          ((f_X1_become_9 s_b1_length s_b1_bytes k) (0 : Int32) x4_5 years_20 months_21 s_lengths))))
        (pcl (f_X9_byteAt x3 s_b1_length s_b1_bytes) (fun r_9 => (
        pbr (r_9 = (32 : Int32))
          ((f_X1_become_9 s_b1_length s_b1_bytes k) x2 x4_5 s_years s_months s_lengths)
          (pcl (f_X1_lengthAt x3 x4_5 s_b1_length s_b1_bytes) (fun r_12 => (
          pcl (f_X1_takesMonth x2 r_12 s_years s_lengths) (fun (r_14, lengths_15) => (
          pbr (r_14 = 0)
            (some (x3, s_years, s_months, lengths_15))
            (plt (x2 + (1 : Int32) : Int32) (fun x2_18 => (
            (f_X1_become_9 s_b1_length s_b1_bytes k) x2_18 x4_5 s_years s_months lengths_15))))))))))))))))))

set_option maxRecDepth 100000 in
set_option maxHeartbeats 4000000 in
theorem k_X1_become_9 {p : Program} {l : Launch} {e : Env} {s : State} {m : MethodId} {args : Array Value} {below : List Frame} {meth : Method} {c : Code} {A : Nat → Prop} {D : va_G} {cA : Nat → ClassId} (C0 : MX p s m args meth c cX1_become 5 wsX1_become RX1 (some .int) D cA) (hA : ∀ q, s.heap.size ≤ q → A q) {a0 : Nat} {b1 : Nat} {b1_bytes : Nat} {q_months : Nat} {q_lengths : Nat} {r_lengths : Nat → Nat} {s_b1_length : Int32} {s_b1_bytes : Nat → Int32} {o_r : Int32} {o_years : Int32} {o_months : Nat → Int32} {o_lengths : Nat → Nat → Int32} : ∀ (k : Nat) (x2 : Int32) (x3 : Int32) (s_years : Int32) (s_months : Nat → Int32) (s_lengths : Nat → Nat → Int32), f_X1_become_9 s_b1_length s_b1_bytes k x2 x3 s_years s_months s_lengths = some (o_r, o_years, o_months, o_lengths) → ∀ (H : Heap) (locs : List Loc), va_P D vwCl (w_X1_become a0 b1 b1_bytes q_months q_lengths r_lengths cA s_years s_b1_length s_b1_bytes s_months s_lengths) H → va_D A (w_X1_become a0 b1 b1_bytes q_months q_lengths r_lengths cA s_years s_b1_length s_b1_bytes s_months s_lengths) → va_S A s.heap H locs → ∀ ls : Array Slot, lv_has ls 5 [(0, .ref a0), (1, .ref b1), (2, .int x2), (3, .int x3)] → W p l e rm_X1_become s m args below meth c H locs 0 0 (MQ below (CQ D (some (.int o_r)) (w_X1_become a0 b1 b1_bytes q_months q_lengths r_lengths cA o_years s_b1_length s_b1_bytes o_months o_lengths) A) args s 0 0 A) (F0 m 9 ls []) := by
  obtain ⟨hx, hb, hml, hown, hts, hr, hlocks, hX⟩ := C0
  have hK := hX.1
  have hN := hX.2
  intro k
  induction k with
  | zero =>
    intro x2 x3 s_years s_months s_lengths hf
    cases hf
  | succ k ih =>
    intro x2 x3 s_years s_months s_lengths hf H locs hP hD hS ls hl
    rw [f_X1_become_9] at hf
    refine lv_iload_n hx hb dX1_become_9 rfl (lv_at hl 3 rfl) ?_
    refine lv_aload_n hx hb dX1_become_10 rfl (lv_at hl 1 rfl) ?_
    refine va_getN (D := D) (ci := 9) (v := .int s_b1_length) (C := RX9) (T := TX9) (N := 2) hx hb hts hn_X1_become_X9 hown hK hP 1 rfl rfl 1 (by decide) (va_Nw.use rfl (hN _ nw_X1_24)) (fun _ h9 => h9) rfl dX1_become_11 ?_
    refine lv_icmp_ge (tgt := 91) hx hb dX1_become_14 (by decide) (fun c_1 => ?_) (fun c_1 => ?_)
    · have hf := pbr_t c_1 hf
      refine lv_iload_n hx hb dX1_become_91 rfl (lv_at hl 2 rfl) ?_
      refine lv_if_le (tgt := 102) hx hb dX1_become_92 (by decide) (fun c_2 => ?_) (fun c_2 => ?_)
      · have hf := pbr_t c_2 hf
        refine lv_iconst (v := (-1 : Int32)) hx hb dX1_become_102 (by decide) ?_
        obtain ⟨rfl, rfl, rfl, rfl⟩ := pe4 hf
        exact m_iret hx hb hr hlocks hP hS dX1_become_103
      have hf := pbr_f c_2 hf
      refine lv_aload_n hx hb dX1_become_95 rfl (lv_at hl 1 rfl) ?_
      refine va_getN (D := D) (ci := 9) (v := .int s_b1_length) (C := RX9) (T := TX9) (N := 2) hx hb hts hn_X1_become_X9 hown hK hP 1 rfl rfl 1 (by decide) (va_Nw.use rfl (hN _ nw_X1_24)) (fun _ h9 => h9) rfl dX1_become_96 ?_
      refine lv_goto (tgt := 103) hx hb dX1_become_99 (by decide) ?_
      obtain ⟨rfl, rfl, rfl, rfl⟩ := pe4 hf
      exact m_iret hx hb hr hlocks hP hS dX1_become_103
    have hf := pbr_f c_1 hf
    refine lv_iload_n hx hb dX1_become_17 rfl (lv_at hl 3 rfl) ?_
    refine lv_iconst (v := (1 : Int32)) hx hb dX1_become_18 (by decide) ?_
    refine lv_iadd hx hb dX1_become_19 ?_
    refine lv_aload_n hx hb dX1_become_20 rfl (lv_at hl 1 rfl) ?_
    refine lv_iload_n hx hb dX1_become_21 rfl (lv_at hl 3 rfl) ?_
    obtain ⟨r_3, hc_4, hf⟩ := pcl_e hf
    refine m_callV2 (As := [.int x3]) (rest := [.int (x3 + (1 : Int32))]) ⟨hx, hb, hml, hown, hts⟩ hX (ct_X9_figuresEnd l D cA x3 b1 b1_bytes s_b1_length s_b1_bytes r_3 hc_4) (cwV 1 hts gX1_become_X9_figuresEnd rfl rfl rfl (by decide +kernel) ⟨Nat.le_of_ble_eq_true rfl, Nat.le_of_ble_eq_true rfl⟩) hP hD hS hA [1, 2] [0, 3, 4, 5, 6, 7, 8, 9, 10, 11, 12] 13 (by decide) rfl rfl (WS' := (w_X1_become a0 b1 b1_bytes q_months q_lengths r_lengths cA s_years s_b1_length s_b1_bytes s_months s_lengths)) (WR := [(a0, .inr (1, [.ref q_lengths, .ref q_months, .int s_years])), (q_months, .inl (cA 1, 8, .inl s_months)), (q_lengths, .inl (cA 5, 8, .inr (.inr (.inr (.inr (gro 8 r_lengths))))))] ++ grw 8 r_lengths (cA 1) 13 s_lengths) rfl rfl rfl rfl (by decide) (by decide) 1 9 rfl rfl rfl hl.1 rfl (st' := [.int r_3, .int (x3 + (1 : Int32))]) rfl (Nat.le_of_ble_eq_true rfl) ⟨Nat.zero_le _, Nat.zero_le _⟩ dX1_become_22 (fun H locs hP hD hS => ?_)
    refine va_mmax hx hb (hml.trans hl.1.symm) hown (hts _ hw_X1_become_m33) (hts _ hw_X1_become_smax) (hts _ hw_X1_become_imath) (hts _ hw_X1_become_kmax) (Nat.le_of_ble_eq_true rfl) (Nat.le_of_ble_eq_true rfl) (Nat.zero_le _) (Nat.zero_le _) dX1_become_25 ?_
    refine lv_topi (fun x4_5 ex4_5 => ?_)
    have hf := plt_e ex4_5 hf
    refine lv_istore (lv' := [(4, .int x4_5), (0, .ref a0), (1, .ref b1), (2, .int x2), (3, .int x3)]) hx hb dX1_become_28 hl (by decide) rfl (fun ls hl => ?_)
    refine lv_aload_n hx hb dX1_become_30 rfl (lv_at hl 2 rfl) ?_
    refine lv_iload_n hx hb dX1_become_31 rfl (lv_at hl 4 rfl) ?_
    obtain ⟨r_6, hc_7, hf⟩ := pcl_e hf
    refine m_callV2 (As := [.int x3]) (rest := []) ⟨hx, hb, hml, hown, hts⟩ hX (ct_X9_byteAt l D cA x3 b1 b1_bytes s_b1_length s_b1_bytes r_6 hc_7) (cwV 1 hts gX1_become_X9_byteAt rfl rfl rfl (by decide +kernel) ⟨Nat.le_of_ble_eq_true rfl, Nat.le_of_ble_eq_true rfl⟩) hP hD hS hA [1, 2] [0, 3, 4, 5, 6, 7, 8, 9, 10, 11, 12] 13 (by decide) rfl rfl (WS' := (w_X1_become a0 b1 b1_bytes q_months q_lengths r_lengths cA s_years s_b1_length s_b1_bytes s_months s_lengths)) (WR := [(a0, .inr (1, [.ref q_lengths, .ref q_months, .int s_years])), (q_months, .inl (cA 1, 8, .inl s_months)), (q_lengths, .inl (cA 5, 8, .inr (.inr (.inr (.inr (gro 8 r_lengths))))))] ++ grw 8 r_lengths (cA 1) 13 s_lengths) rfl rfl rfl rfl (by decide) (by decide) 1 9 rfl rfl rfl hl.1 rfl (st' := [.int r_6]) rfl (Nat.le_of_ble_eq_true rfl) ⟨Nat.zero_le _, Nat.zero_le _⟩ dX1_become_32 (fun H locs hP hD hS => ?_)
    refine lv_bipush (v := (59 : Int32)) hx hb dX1_become_35 (by decide) ?_
    refine lv_icmp_ne (tgt := 55) hx hb dX1_become_37 (by decide) (fun c_8 => ?_) (fun c_8 => ?_)
    · have hf := pbr_f c_8 hf
      refine lv_aload_n hx hb dX1_become_55 rfl (lv_at hl 2 rfl) ?_
      refine lv_iload_n hx hb dX1_become_56 rfl (lv_at hl 4 rfl) ?_
      obtain ⟨r_9, hc_10, hf⟩ := pcl_e hf
      refine m_callV2 (As := [.int x3]) (rest := []) ⟨hx, hb, hml, hown, hts⟩ hX (ct_X9_byteAt l D cA x3 b1 b1_bytes s_b1_length s_b1_bytes r_9 hc_10) (cwV 1 hts gX1_become_X9_byteAt rfl rfl rfl (by decide +kernel) ⟨Nat.le_of_ble_eq_true rfl, Nat.le_of_ble_eq_true rfl⟩) hP hD hS hA [1, 2] [0, 3, 4, 5, 6, 7, 8, 9, 10, 11, 12] 13 (by decide) rfl rfl (WS' := (w_X1_become a0 b1 b1_bytes q_months q_lengths r_lengths cA s_years s_b1_length s_b1_bytes s_months s_lengths)) (WR := [(a0, .inr (1, [.ref q_lengths, .ref q_months, .int s_years])), (q_months, .inl (cA 1, 8, .inl s_months)), (q_lengths, .inl (cA 5, 8, .inr (.inr (.inr (.inr (gro 8 r_lengths))))))] ++ grw 8 r_lengths (cA 1) 13 s_lengths) rfl rfl rfl rfl (by decide) (by decide) 1 9 rfl rfl rfl hl.1 rfl (st' := [.int r_9]) rfl (Nat.le_of_ble_eq_true rfl) ⟨Nat.zero_le _, Nat.zero_le _⟩ dX1_become_57 (fun H locs hP hD hS => ?_)
      refine lv_bipush (v := (32 : Int32)) hx hb dX1_become_60 (by decide) ?_
      refine lv_icmp_eq (tgt := 85) hx hb dX1_become_62 (by decide) (fun c_11 => ?_) (fun c_11 => ?_)
      · have hf := pbr_t c_11 hf
        refine lv_iload hx hb dX1_become_85 (lv_at hl 0 rfl) ?_
        refine lv_istore_n (lv' := [(3, .int x4_5), (4, .int x4_5), (0, .ref a0), (1, .ref b1), (2, .int x2)]) hx hb dX1_become_87 rfl hl (by decide) rfl (fun ls hl => ?_)
        refine lv_goto (tgt := 9) hx hb dX1_become_88 (by decide) ?_
        exact ih x2 x4_5 s_years s_months s_lengths hf _ _ hP hD hS ls (lv_sub hl [2, 3, 4, 0] rfl)
      have hf := pbr_f c_11 hf
      refine lv_aload_n hx hb dX1_become_65 rfl (lv_at hl 1 rfl) ?_
      refine lv_iload_n hx hb dX1_become_66 rfl (lv_at hl 3 rfl) ?_
      refine lv_aload_n hx hb dX1_become_67 rfl (lv_at hl 2 rfl) ?_
      refine lv_iload_n hx hb dX1_become_68 rfl (lv_at hl 4 rfl) ?_
      refine lv_iload hx hb dX1_become_69 (lv_at hl 0 rfl) ?_
      obtain ⟨r_12, hc_13, hf⟩ := pcl_e hf
      refine m_callS2 (As := [.ref b1, .int x3, .int x4_5]) (rest := [.int x2, .ref a0]) ⟨hx, hb, hml, hown, hts⟩ hX (ct_X1_lengthAt l D cA x3 x4_5 b1 b1_bytes s_b1_length s_b1_bytes r_12 hc_13) (va_cwS 3 hts gX1_become_X1_lengthAt rfl rfl rfl (by decide +kernel) ⟨Nat.le_of_ble_eq_true rfl, Nat.le_of_ble_eq_true rfl⟩) hP hD hS hA [1, 2] [0, 3, 4, 5, 6, 7, 8, 9, 10, 11, 12] 13 (by decide) rfl rfl (WS' := (w_X1_become a0 b1 b1_bytes q_months q_lengths r_lengths cA s_years s_b1_length s_b1_bytes s_months s_lengths)) (WR := [(a0, .inr (1, [.ref q_lengths, .ref q_months, .int s_years])), (q_months, .inl (cA 1, 8, .inl s_months)), (q_lengths, .inl (cA 5, 8, .inr (.inr (.inr (.inr (gro 8 r_lengths))))))] ++ grw 8 r_lengths (cA 1) 13 s_lengths) rfl rfl rfl rfl (by decide) (by decide) rfl hl.1 rfl (st' := [.int r_12, .int x2, .ref a0]) rfl (Nat.le_of_ble_eq_true rfl) ⟨Nat.zero_le _, Nat.zero_le _⟩ dX1_become_71 (fun H locs hP hD hS => ?_)
      obtain ⟨⟨r_14, lengths_15⟩, hc_16, hf⟩ := pcl_e hf
      refine m_callV2 (As := [.int x2, .int r_12]) (rest := []) ⟨hx, hb, hml, hown, hts⟩ hX (ct_X1_takesMonth l D cA x2 r_12 a0 q_lengths q_months r_lengths s_years s_lengths r_14 lengths_15 hc_16) (cwV 2 hts gX1_become_X1_takesMonth rfl rfl rfl (by decide +kernel) ⟨Nat.le_of_ble_eq_true rfl, Nat.le_of_ble_eq_true rfl⟩) hP hD hS hA [0, 4, 5, 6, 7, 8, 9, 10, 11, 12] [1, 2, 3] 13 (by decide) rfl rfl (WS' := (w_X1_become a0 b1 b1_bytes q_months q_lengths r_lengths cA s_years s_b1_length s_b1_bytes s_months lengths_15)) (WR := [(b1, .inr (9, [.ref b1_bytes, .int s_b1_length])), (b1_bytes, .inl (cA 0, 400, .inl s_b1_bytes)), (q_months, .inl (cA 1, 8, .inl s_months))]) rfl rfl rfl rfl (by decide) (by decide) 0 1 rfl rfl rfl hl.1 rfl (st' := [.int r_14]) rfl (Nat.le_of_ble_eq_true rfl) ⟨Nat.zero_le _, Nat.zero_le _⟩ dX1_become_74 (fun H locs hP hD hS => ?_)
      refine lv_if_ne (tgt := 82) hx hb dX1_become_77 (by decide) (fun c_17 => ?_) (fun c_17 => ?_)
      · have hf := pbr_f c_17 hf
        obtain ⟨x2_18, ex2_18⟩ : ∃ z : Int32, z = x2 + (1 : Int32) := ⟨_, rfl⟩
        have hf := plt_e ex2_18 hf
        refine lv_iinc (v := x2_18) (lv' := [(2, .int x2_18), (4, .int x4_5), (0, .ref a0), (1, .ref b1), (3, .int x3)]) hx hb dX1_become_82 hl (k := 3) rfl (by rw [ex2_18]; rfl) (by decide) rfl (fun ls hl => ?_)
        refine lv_iload hx hb dX1_become_85 (lv_at hl 1 rfl) ?_
        refine lv_istore_n (lv' := [(3, .int x4_5), (2, .int x2_18), (4, .int x4_5), (0, .ref a0), (1, .ref b1)]) hx hb dX1_become_87 rfl hl (by decide) rfl (fun ls hl => ?_)
        refine lv_goto (tgt := 9) hx hb dX1_become_88 (by decide) ?_
        exact ih x2_18 x4_5 s_years s_months lengths_15 hf _ _ hP hD hS ls (lv_sub hl [3, 4, 1, 0] rfl)
      have hf := pbr_t c_17 hf
      refine lv_iload_n hx hb dX1_become_80 rfl (lv_at hl 4 rfl) ?_
      obtain ⟨rfl, rfl, rfl, rfl⟩ := pe4 hf
      exact m_iret hx hb hr hlocks hP hS dX1_become_81
    have hf := pbr_t c_8 hf
    refine lv_aload_n hx hb dX1_become_40 rfl (lv_at hl 1 rfl) ?_
    refine lv_iload_n hx hb dX1_become_41 rfl (lv_at hl 3 rfl) ?_
    obtain ⟨⟨r_19, years_20, months_21⟩, hc_22, hf⟩ := pcl_e hf
    refine m_callV2 (As := [.int x2]) (rest := []) ⟨hx, hb, hml, hown, hts⟩ hX (ct_X1_endsYear l D cA x2 a0 q_months q_lengths s_years s_months r_19 years_20 months_21 hc_22) (cwV 1 hts gX1_become_X1_endsYear rfl rfl rfl (by decide +kernel) ⟨Nat.le_of_ble_eq_true rfl, Nat.le_of_ble_eq_true rfl⟩) hP hD hS hA [0, 3] [1, 2, 4, 5, 6, 7, 8, 9, 10, 11, 12] 13 (by decide) rfl rfl (WS' := (w_X1_become a0 b1 b1_bytes q_months q_lengths r_lengths cA years_20 s_b1_length s_b1_bytes months_21 s_lengths)) (WR := [(b1, .inr (9, [.ref b1_bytes, .int s_b1_length])), (b1_bytes, .inl (cA 0, 400, .inl s_b1_bytes)), (q_lengths, .inl (cA 5, 8, .inr (.inr (.inr (.inr (gro 8 r_lengths))))))] ++ grw 8 r_lengths (cA 1) 13 s_lengths) rfl rfl rfl rfl (by decide) (by decide) 0 1 rfl rfl rfl hl.1 rfl (st' := [.int r_19]) rfl (Nat.le_of_ble_eq_true rfl) ⟨Nat.zero_le _, Nat.zero_le _⟩ dX1_become_42 (fun H locs hP hD hS => ?_)
    refine lv_if_ne (tgt := 50) hx hb dX1_become_45 (by decide) (fun c_23 => ?_) (fun c_23 => ?_)
    · have hf := pbr_f c_23 hf
      refine lv_iconst (v := (0 : Int32)) hx hb dX1_become_50 (by decide) ?_
      refine lv_istore_n (lv' := [(2, .int (0 : Int32)), (4, .int x4_5), (0, .ref a0), (1, .ref b1), (3, .int x3)]) hx hb dX1_become_51 rfl hl (by decide) rfl (fun ls hl => ?_)
      refine lv_goto (tgt := 85) hx hb dX1_become_52 (by decide) ?_
      refine lv_iload hx hb dX1_become_85 (lv_at hl 1 rfl) ?_
      refine lv_istore_n (lv' := [(3, .int x4_5), (2, .int (0 : Int32)), (4, .int x4_5), (0, .ref a0), (1, .ref b1)]) hx hb dX1_become_87 rfl hl (by decide) rfl (fun ls hl => ?_)
      refine lv_goto (tgt := 9) hx hb dX1_become_88 (by decide) ?_
      exact ih (0 : Int32) x4_5 years_20 months_21 s_lengths hf _ _ hP hD hS ls (lv_sub hl [3, 4, 1, 0] rfl)
    have hf := pbr_t c_23 hf
    refine lv_iload_n hx hb dX1_become_48 rfl (lv_at hl 4 rfl) ?_
    obtain ⟨rfl, rfl, rfl, rfl⟩ := pe4 hf
    exact m_iret hx hb hr hlocks hP hS dX1_become_49

def f_X1_become (s_years : Int32) (s_b1_length : Int32) (s_b1_bytes : Nat → Int32) (s_months : Nat → Int32) (s_lengths : Nat → Nat → Int32) : Option ((Int32) × (Int32) × (Nat → Int32) × (Nat → Nat → Int32)) :=
  f_X1_become_9 s_b1_length s_b1_bytes FU (0 : Int32) (0 : Int32) (0 : Int32) s_months s_lengths

set_option maxRecDepth 100000 in
set_option maxHeartbeats 4000000 in
theorem ct_X1_become (l : Launch) (D : va_G) (cA : Nat → ClassId) (a0 : Nat) (b1 : Nat) (b1_bytes : Nat) (q_months : Nat) (q_lengths : Nat) (r_lengths : Nat → Nat) (s_years : Int32) (s_b1_length : Int32) (s_b1_bytes : Nat → Int32) (s_months : Nat → Int32) (s_lengths : Nat → Nat → Int32) (o_r : Int32) (o_years : Int32) (o_months : Nat → Int32) (o_lengths : Nat → Nat → Int32) (hf : f_X1_become s_years s_b1_length s_b1_bytes s_months s_lengths = some (o_r, o_years, o_months, o_lengths)) : CT l yX1_become wsX1_become rm_X1_become D cA [.ref a0, .ref b1] (w_X1_become a0 b1 b1_bytes q_months q_lengths r_lengths cA s_years s_b1_length s_b1_bytes s_months s_lengths) (w_X1_become a0 b1 b1_bytes q_months q_lengths r_lengths cA o_years s_b1_length s_b1_bytes o_months o_lengths) (some (.int o_r)) := by
  refine CT.ofW (cc := cX1_become) (maxL := 5) (ret := (some .int)) (by decide +kernel) rfl (Nat.le_of_ble_eq_true rfl) ?_
  intro p e s m below meth c A C0 hA hP hD ls hl
  have C0 : MX p s m [.ref a0, .ref b1].toArray meth c cX1_become 5 wsX1_become RX1 (some .int) D cA := C0
  have hl : lv_has ls 5 [(0, .ref a0), (1, .ref b1)] := hl
  obtain ⟨hx, hb, hml, hown, hts, hr, hlocks, hX⟩ := id C0
  have hK := hX.1
  have hN := hX.2
  have hS : va_S A s.heap s.heap [] := va_S.rf
  unfold f_X1_become at hf
  refine lv_aload_n hx hb dX1_become_0 rfl (lv_at hl 0 rfl) ?_
  refine lv_iconst (v := (0 : Int32)) hx hb dX1_become_1 (by decide) ?_
  refine va_put (D := D) (ci := 1) (v := .int (0 : Int32)) (ty := .int) (C := RX1) (T := TX1) (N := 3) hx hb hts hn_X1_become_X1 tyX1 tyX1_ok nmX1 hown hK hP hD hS 0 rfl rfl 2 (by decide) (hts _ hw_X1_become_f20) (fun _ h9 => h9) rfl (by decide +kernel) rfl rfl (Nat.le_of_ble_eq_true rfl) dX1_become_2 (fun H locs hP hD hS => ?_)
  have hP : va_P D vwCl (w_X1_become a0 b1 b1_bytes q_months q_lengths r_lengths cA (0 : Int32) s_b1_length s_b1_bytes s_months s_lengths) H := hP
  have hD : va_D A (w_X1_become a0 b1 b1_bytes q_months q_lengths r_lengths cA (0 : Int32) s_b1_length s_b1_bytes s_months s_lengths) := hD
  refine lv_iconst (v := (0 : Int32)) hx hb dX1_become_5 (by decide) ?_
  refine lv_istore_n (lv' := [(2, .int (0 : Int32)), (0, .ref a0), (1, .ref b1)]) hx hb dX1_become_6 rfl hl (by decide) rfl (fun ls hl => ?_)
  refine lv_iconst (v := (0 : Int32)) hx hb dX1_become_7 (by decide) ?_
  refine lv_istore_n (lv' := [(3, .int (0 : Int32)), (2, .int (0 : Int32)), (0, .ref a0), (1, .ref b1)]) hx hb dX1_become_8 rfl hl (by decide) rfl (fun ls hl => ?_)
  exact k_X1_become_9 C0 hA FU (0 : Int32) (0 : Int32) (0 : Int32) s_months s_lengths hf _ _ hP hD hS ls (lv_sub hl [2, 3, 1, 0] rfl)

/-! ===== OrphanWave$Calendar.hasDay(III)Z ===== -/
abbrev rm_X1_hasDay : Room := { frames := 1, cells := 0, slots := 0, locals := 22 }
abbrev wx_X1_hasDay (a0 : Nat) (q_months : Nat) (q_lengths : Nat) (r_lengths : Nat → Nat) (cA : Nat → ClassId) (s_years : Int32) (s_months : Nat → Int32) (s_lengths : Nat → Nat → Int32) : va_W := [(a0, .inr (1, [.ref q_lengths, .ref q_months, .int s_years])), (q_months, .inl (cA 1, 8, .inl s_months)), (q_lengths, .inl (cA 5, 8, .inr (.inr (.inr (.inr (gro 8 r_lengths))))))]
abbrev w_X1_hasDay (a0 : Nat) (q_months : Nat) (q_lengths : Nat) (r_lengths : Nat → Nat) (cA : Nat → ClassId) (s_years : Int32) (s_months : Nat → Int32) (s_lengths : Nat → Nat → Int32) : va_W := [(a0, .inr (1, [.ref q_lengths, .ref q_months, .int s_years])), (q_months, .inl (cA 1, 8, .inl s_months)), (q_lengths, .inl (cA 5, 8, .inr (.inr (.inr (.inr (gro 8 r_lengths))))))] ++ grw 8 r_lengths (cA 1) 13 s_lengths
theorem hn_X1_hasDay_X1 : ∀ w ∈ u_ws RX1 TX1 3, w ∈ wsX1_hasDay := by decide +kernel
theorem hw_X1_hasDay_f20 : Cond.fieldLink RX1 20 "OrphanWave$Calendar" "years" "I" ∈ wsX1_hasDay := by decide +kernel
theorem hw_X1_hasDay_f16 : Cond.fieldLink RX1 16 "OrphanWave$Calendar" "months" "[I" ∈ wsX1_hasDay := by decide +kernel
theorem hw_X1_hasDay_f11 : Cond.fieldLink RX1 11 "OrphanWave$Calendar" "lengths" "[[I" ∈ wsX1_hasDay := by decide +kernel
theorem hw_X1_hasDay_iX11 : Cond.initialized RX11 ∈ wsX1_hasDay := by decide +kernel
theorem hw_X1_hasDay_sX11_within : Cond.static yX11_within ∈ wsX1_hasDay := by decide +kernel

def f_X1_hasDay (x1 : Int32) (x2 : Int32) (x3 : Int32) (s_years : Int32) (s_months : Nat → Int32) (s_lengths : Nat → Nat → Int32) : Option ((Int32)) :=
  pcl (f_X11_within x1 (0 : Int32) (s_years - (1 : Int32))) (fun r_1 => (
  pbr (r_1 = 0)
    (some ((0 : Int32)))
    (pgd (pin x1 8) (
    pcl (f_X11_within x2 (0 : Int32) ((s_months x1.toNatClampNeg) - (1 : Int32))) (fun r_5 => (
    pbr (r_5 = 0)
      (some ((0 : Int32)))
      (pgd (pin x2 13) (
      pcl (f_X11_within x3 (0 : Int32) ((s_lengths x1.toNatClampNeg x2.toNatClampNeg) - (1 : Int32))) (fun r_9 => (
      pbr (r_9 = 0)
        (some ((0 : Int32)))
        (some ((1 : Int32)))))))))))))

set_option maxRecDepth 100000 in
set_option maxHeartbeats 4000000 in
theorem ct_X1_hasDay (l : Launch) (D : va_G) (cA : Nat → ClassId) (x1 : Int32) (x2 : Int32) (x3 : Int32) (a0 : Nat) (q_months : Nat) (q_lengths : Nat) (r_lengths : Nat → Nat) (s_years : Int32) (s_months : Nat → Int32) (s_lengths : Nat → Nat → Int32) (o_r : Int32) (hf : f_X1_hasDay x1 x2 x3 s_years s_months s_lengths = some o_r) : CT l yX1_hasDay wsX1_hasDay rm_X1_hasDay D cA [.ref a0, .int x1, .int x2, .int x3] (w_X1_hasDay a0 q_months q_lengths r_lengths cA s_years s_months s_lengths) (w_X1_hasDay a0 q_months q_lengths r_lengths cA s_years s_months s_lengths) (some (.int o_r)) := by
  refine CT.ofW (cc := cX1_hasDay) (maxL := 4) (ret := (some .boolean)) (by decide +kernel) rfl (Nat.le_of_ble_eq_true rfl) ?_
  intro p e s m below meth c A C0 hA hP hD ls hl
  have C0 : MX p s m [.ref a0, .int x1, .int x2, .int x3].toArray meth c cX1_hasDay 4 wsX1_hasDay RX1 (some .boolean) D cA := C0
  have hl : lv_has ls 4 [(0, .ref a0), (1, .int x1), (2, .int x2), (3, .int x3)] := hl
  obtain ⟨hx, hb, hml, hown, hts, hr, hlocks, hX⟩ := id C0
  have hK := hX.1
  have hN := hX.2
  have hS : va_S A s.heap s.heap [] := va_S.rf
  unfold f_X1_hasDay at hf
  refine lv_iload_n hx hb dX1_hasDay_0 rfl (lv_at hl 1 rfl) ?_
  refine lv_iconst (v := (0 : Int32)) hx hb dX1_hasDay_1 (by decide) ?_
  refine lv_aload_n hx hb dX1_hasDay_2 rfl (lv_at hl 0 rfl) ?_
  refine va_get (D := D) (ci := 1) (v := .int s_years) (C := RX1) (T := TX1) (N := 3) hx hb hts hn_X1_hasDay_X1 hown hK hP 0 rfl rfl 2 (by decide) (hts _ hw_X1_hasDay_f20) (fun _ h9 => h9) rfl dX1_hasDay_3 ?_
  refine lv_iconst (v := (1 : Int32)) hx hb dX1_hasDay_6 (by decide) ?_
  refine lv_isub hx hb dX1_hasDay_7 ?_
  obtain ⟨r_1, hc_2, hf⟩ := pcl_e hf
  refine m_callSN2 (As := [.int x1, .int (0 : Int32), .int (s_years - (1 : Int32))]) (rest := []) ⟨hx, hb, hml, hown, hts⟩ hX (ct_X11_within l D cA x1 (0 : Int32) (s_years - (1 : Int32)) r_1 hc_2) ⟨va_cnB 3 hts ggX1_hasDay_X11_within rfl rfl rfl (hN _ nw_X1_57) (hts _ hw_X1_hasDay_iX11) (by decide +kernel) ⟨Nat.le_of_ble_eq_true rfl, Nat.le_of_ble_eq_true rfl⟩, hts _ hw_X1_hasDay_sX11_within, trivial⟩ hP hD hS hA [] [0, 1, 2, 3, 4, 5, 6, 7, 8, 9, 10] 11 (by decide) rfl rfl (WS' := (w_X1_hasDay a0 q_months q_lengths r_lengths cA s_years s_months s_lengths)) (WR := [(a0, .inr (1, [.ref q_lengths, .ref q_months, .int s_years])), (q_months, .inl (cA 1, 8, .inl s_months)), (q_lengths, .inl (cA 5, 8, .inr (.inr (.inr (.inr (gro 8 r_lengths))))))] ++ grw 8 r_lengths (cA 1) 13 s_lengths) rfl rfl rfl rfl (by decide) (by decide) rfl hl.1 rfl (st' := [.int r_1]) rfl (Nat.le_of_ble_eq_true rfl) ⟨Nat.zero_le _, Nat.zero_le _⟩ dX1_hasDay_8 (fun H locs hP hD hS => ?_)
  refine lv_if_eq (tgt := 52) hx hb dX1_hasDay_11 (by decide) (fun c_3 => ?_) (fun c_3 => ?_)
  · have hf := pbr_t c_3 hf
    refine lv_iconst (v := (0 : Int32)) hx hb dX1_hasDay_52 (by decide) ?_
    obtain rfl := pe1 hf
    exact m_zret (by decide) hx hb hr hlocks hP hS dX1_hasDay_53
  have hf := pbr_f c_3 hf
  refine lv_iload_n hx hb dX1_hasDay_14 rfl (lv_at hl 2 rfl) ?_
  refine lv_iconst (v := (0 : Int32)) hx hb dX1_hasDay_15 (by decide) ?_
  refine lv_aload_n hx hb dX1_hasDay_16 rfl (lv_at hl 0 rfl) ?_
  refine va_get (D := D) (ci := 1) (v := .ref q_months) (C := RX1) (T := TX1) (N := 3) hx hb hts hn_X1_hasDay_X1 hown hK hP 0 rfl rfl 1 (by decide) (hts _ hw_X1_hasDay_f16) (fun _ h9 => h9) rfl dX1_hasDay_17 ?_
  refine lv_iload_n hx hb dX1_hasDay_20 rfl (lv_at hl 1 rfl) ?_
  obtain ⟨g_4, hf⟩ := pgd_e hf
  refine va_iald hx hb hK hP 1 1 rfl rfl g_4 dX1_hasDay_21 ?_
  refine lv_iconst (v := (1 : Int32)) hx hb dX1_hasDay_22 (by decide) ?_
  refine lv_isub hx hb dX1_hasDay_23 ?_
  obtain ⟨r_5, hc_6, hf⟩ := pcl_e hf
  refine m_callSN2 (As := [.int x2, .int (0 : Int32), .int ((s_months x1.toNatClampNeg) - (1 : Int32))]) (rest := []) ⟨hx, hb, hml, hown, hts⟩ hX (ct_X11_within l D cA x2 (0 : Int32) ((s_months x1.toNatClampNeg) - (1 : Int32)) r_5 hc_6) ⟨va_cnB 3 hts ggX1_hasDay_X11_within rfl rfl rfl (hN _ nw_X1_57) (hts _ hw_X1_hasDay_iX11) (by decide +kernel) ⟨Nat.le_of_ble_eq_true rfl, Nat.le_of_ble_eq_true rfl⟩, hts _ hw_X1_hasDay_sX11_within, trivial⟩ hP hD hS hA [] [0, 1, 2, 3, 4, 5, 6, 7, 8, 9, 10] 11 (by decide) rfl rfl (WS' := (w_X1_hasDay a0 q_months q_lengths r_lengths cA s_years s_months s_lengths)) (WR := [(a0, .inr (1, [.ref q_lengths, .ref q_months, .int s_years])), (q_months, .inl (cA 1, 8, .inl s_months)), (q_lengths, .inl (cA 5, 8, .inr (.inr (.inr (.inr (gro 8 r_lengths))))))] ++ grw 8 r_lengths (cA 1) 13 s_lengths) rfl rfl rfl rfl (by decide) (by decide) rfl hl.1 rfl (st' := [.int r_5]) rfl (Nat.le_of_ble_eq_true rfl) ⟨Nat.zero_le _, Nat.zero_le _⟩ dX1_hasDay_24 (fun H locs hP hD hS => ?_)
  refine lv_if_eq (tgt := 52) hx hb dX1_hasDay_27 (by decide) (fun c_7 => ?_) (fun c_7 => ?_)
  · have hf := pbr_t c_7 hf
    refine lv_iconst (v := (0 : Int32)) hx hb dX1_hasDay_52 (by decide) ?_
    obtain rfl := pe1 hf
    exact m_zret (by decide) hx hb hr hlocks hP hS dX1_hasDay_53
  have hf := pbr_f c_7 hf
  refine lv_iload_n hx hb dX1_hasDay_30 rfl (lv_at hl 3 rfl) ?_
  refine lv_iconst (v := (0 : Int32)) hx hb dX1_hasDay_31 (by decide) ?_
  refine lv_aload_n hx hb dX1_hasDay_32 rfl (lv_at hl 0 rfl) ?_
  refine va_get (D := D) (ci := 1) (v := .ref q_lengths) (C := RX1) (T := TX1) (N := 3) hx hb hts hn_X1_hasDay_X1 hown hK hP 0 rfl rfl 0 (by decide) (hts _ hw_X1_hasDay_f11) (fun _ h9 => h9) rfl dX1_hasDay_33 ?_
  refine lv_iload_n hx hb dX1_hasDay_36 rfl (lv_at hl 1 rfl) ?_
  refine m_aald hx hb hK hP 2 rfl g_4 dX1_hasDay_37 ?_
  refine lv_iload_n hx hb dX1_hasDay_38 rfl (lv_at hl 2 rfl) ?_
  obtain ⟨g_8, hf⟩ := pgd_e hf
  refine m_rald (i := x1) hx hb hK hP rfl g_4 g_8 dX1_hasDay_39 ?_
  refine lv_iconst (v := (1 : Int32)) hx hb dX1_hasDay_40 (by decide) ?_
  refine lv_isub hx hb dX1_hasDay_41 ?_
  obtain ⟨r_9, hc_10, hf⟩ := pcl_e hf
  refine m_callSN2 (As := [.int x3, .int (0 : Int32), .int ((s_lengths x1.toNatClampNeg x2.toNatClampNeg) - (1 : Int32))]) (rest := []) ⟨hx, hb, hml, hown, hts⟩ hX (ct_X11_within l D cA x3 (0 : Int32) ((s_lengths x1.toNatClampNeg x2.toNatClampNeg) - (1 : Int32)) r_9 hc_10) ⟨va_cnB 3 hts ggX1_hasDay_X11_within rfl rfl rfl (hN _ nw_X1_57) (hts _ hw_X1_hasDay_iX11) (by decide +kernel) ⟨Nat.le_of_ble_eq_true rfl, Nat.le_of_ble_eq_true rfl⟩, hts _ hw_X1_hasDay_sX11_within, trivial⟩ hP hD hS hA [] [0, 1, 2, 3, 4, 5, 6, 7, 8, 9, 10] 11 (by decide) rfl rfl (WS' := (w_X1_hasDay a0 q_months q_lengths r_lengths cA s_years s_months s_lengths)) (WR := [(a0, .inr (1, [.ref q_lengths, .ref q_months, .int s_years])), (q_months, .inl (cA 1, 8, .inl s_months)), (q_lengths, .inl (cA 5, 8, .inr (.inr (.inr (.inr (gro 8 r_lengths))))))] ++ grw 8 r_lengths (cA 1) 13 s_lengths) rfl rfl rfl rfl (by decide) (by decide) rfl hl.1 rfl (st' := [.int r_9]) rfl (Nat.le_of_ble_eq_true rfl) ⟨Nat.zero_le _, Nat.zero_le _⟩ dX1_hasDay_42 (fun H locs hP hD hS => ?_)
  refine lv_if_eq (tgt := 52) hx hb dX1_hasDay_45 (by decide) (fun c_11 => ?_) (fun c_11 => ?_)
  · have hf := pbr_t c_11 hf
    refine lv_iconst (v := (0 : Int32)) hx hb dX1_hasDay_52 (by decide) ?_
    obtain rfl := pe1 hf
    exact m_zret (by decide) hx hb hr hlocks hP hS dX1_hasDay_53
  have hf := pbr_f c_11 hf
  refine lv_iconst (v := (1 : Int32)) hx hb dX1_hasDay_48 (by decide) ?_
  refine lv_goto (tgt := 53) hx hb dX1_hasDay_49 (by decide) ?_
  obtain rfl := pe1 hf
  exact m_zret (by decide) hx hb hr hlocks hP hS dX1_hasDay_53
