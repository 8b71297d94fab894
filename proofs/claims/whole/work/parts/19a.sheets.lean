/-! ===== OrphanWave$Sheets.add(III)I ===== -/
abbrev rm_X6_add : Room := { frames := 0, cells := 0, slots := 0, locals := 0 }
abbrev w_X6_add (a0 : Nat) (q_marshes : Nat) (q_olds : Nat) (q_youngs : Nat) (cA : Nat → ClassId) (s_count : Int32) (s_marshes : Nat → Int32) (s_olds : Nat → Int32) (s_youngs : Nat → Int32) : va_W := [(a0, .inr (6, [.ref q_marshes, .ref q_olds, .ref q_youngs, .int s_count])), (q_marshes, .inl (cA 1, 12, .inl s_marshes)), (q_olds, .inl (cA 1, 12, .inl s_olds)), (q_youngs, .inl (cA 1, 12, .inl s_youngs))]
theorem hn_X6_add_X6 : ∀ w ∈ u_ws RX6 TX6 4, w ∈ wsX6_add := by decide +kernel
theorem hw_X6_add_f9 : Cond.fieldLink RX6 9 "OrphanWave$Sheets" "marshes" "[I" ∈ wsX6_add := by decide +kernel
theorem hw_X6_add_f21 : Cond.fieldLink RX6 21 "OrphanWave$Sheets" "count" "I" ∈ wsX6_add := by decide +kernel
theorem hw_X6_add_f15 : Cond.fieldLink RX6 15 "OrphanWave$Sheets" "olds" "[I" ∈ wsX6_add := by decide +kernel
theorem hw_X6_add_f18 : Cond.fieldLink RX6 18 "OrphanWave$Sheets" "youngs" "[I" ∈ wsX6_add := by decide +kernel

def f_X6_add (x1 : Int32) (x2 : Int32) (x3 : Int32) (s_count : Int32) (s_marshes : Nat → Int32) (s_olds : Nat → Int32) (s_youngs : Nat → Int32) : Option ((Int32) × (Int32) × (Nat → Int32) × (Nat → Int32) × (Nat → Int32)) :=
  pgd (pin s_count 12) (
  plt (upd s_marshes s_count.toNatClampNeg x1 : Nat → Int32) (fun f_2 => (
  plt (upd s_olds s_count.toNatClampNeg x2 : Nat → Int32) (fun f_3 => (
  plt (upd s_youngs s_count.toNatClampNeg x3 : Nat → Int32) (fun f_4 => (
  plt ((s_count + (1 : Int32)) : Int32) (fun count_5 => (
  some (s_count, count_5, f_2, f_3, f_4))))))))))

set_option maxRecDepth 100000 in
set_option maxHeartbeats 4000000 in
theorem ct_X6_add (l : Launch) (D : va_G) (cA : Nat → ClassId) (x1 : Int32) (x2 : Int32) (x3 : Int32) (a0 : Nat) (q_marshes : Nat) (q_olds : Nat) (q_youngs : Nat) (s_count : Int32) (s_marshes : Nat → Int32) (s_olds : Nat → Int32) (s_youngs : Nat → Int32) (o_r : Int32) (o_count : Int32) (o_marshes : Nat → Int32) (o_olds : Nat → Int32) (o_youngs : Nat → Int32) (hf : f_X6_add x1 x2 x3 s_count s_marshes s_olds s_youngs = some (o_r, o_count, o_marshes, o_olds, o_youngs)) : CT l yX6_add wsX6_add rm_X6_add D cA [.ref a0, .int x1, .int x2, .int x3] (w_X6_add a0 q_marshes q_olds q_youngs cA s_count s_marshes s_olds s_youngs) (w_X6_add a0 q_marshes q_olds q_youngs cA o_count o_marshes o_olds o_youngs) (some (.int o_r)) := by
  refine CT.ofW (cc := cX6_add) (maxL := 4) (ret := (some .int)) (by decide +kernel) rfl (Nat.le_of_ble_eq_true rfl) ?_
  intro p e s m below meth c A C0 hA hP hD ls hl
  have C0 : MX p s m [.ref a0, .int x1, .int x2, .int x3].toArray meth c cX6_add 4 wsX6_add RX6 (some .int) D cA := C0
  have hl : lv_has ls 4 [(0, .ref a0), (1, .int x1), (2, .int x2), (3, .int x3)] := hl
  obtain ⟨hx, hb, hml, hown, hts, hr, hlocks, hX⟩ := id C0
  have hK := hX.1
  have hN := hX.2
  have hS : va_S A s.heap s.heap [] := va_S.rf
  unfold f_X6_add at hf
  refine lv_aload_n hx hb dX6_add_0 rfl (lv_at hl 0 rfl) ?_
  refine va_get (D := D) (ci := 6) (v := .ref q_marshes) (C := RX6) (T := TX6) (N := 4) hx hb hts hn_X6_add_X6 hown hK hP 0 rfl rfl 0 (by decide) (hts _ hw_X6_add_f9) (fun _ h9 => h9) rfl dX6_add_1 ?_
  refine lv_aload_n hx hb dX6_add_4 rfl (lv_at hl 0 rfl) ?_
  refine va_get (D := D) (ci := 6) (v := .int s_count) (C := RX6) (T := TX6) (N := 4) hx hb hts hn_X6_add_X6 hown hK hP 0 rfl rfl 3 (by decide) (hts _ hw_X6_add_f21) (fun _ h9 => h9) rfl dX6_add_5 ?_
  refine lv_iload_n hx hb dX6_add_8 rfl (lv_at hl 1 rfl) ?_
  obtain ⟨g_1, hf⟩ := pgd_e hf
  refine va_iast hx hb hK hP hD hS 1 1 rfl rfl g_1 dX6_add_9 (fun H locs hP hD hS => ?_)
  obtain ⟨f_2, ef_2⟩ : ∃ z : Nat → Int32, z = upd s_marshes s_count.toNatClampNeg x1 := ⟨_, rfl⟩
  have hf := plt_e ef_2 hf
  have hP : va_P D vwCl (w_X6_add a0 q_marshes q_olds q_youngs cA s_count f_2 s_olds s_youngs) H := by rw [ef_2]; exact hP
  have hD : va_D A (w_X6_add a0 q_marshes q_olds q_youngs cA s_count f_2 s_olds s_youngs) := by rw [ef_2]; exact hD
  refine lv_aload_n hx hb dX6_add_10 rfl (lv_at hl 0 rfl) ?_
  refine va_get (D := D) (ci := 6) (v := .ref q_olds) (C := RX6) (T := TX6) (N := 4) hx hb hts hn_X6_add_X6 hown hK hP 0 rfl rfl 1 (by decide) (hts _ hw_X6_add_f15) (fun _ h9 => h9) rfl dX6_add_11 ?_
  refine lv_aload_n hx hb dX6_add_14 rfl (lv_at hl 0 rfl) ?_
  refine va_get (D := D) (ci := 6) (v := .int s_count) (C := RX6) (T := TX6) (N := 4) hx hb hts hn_X6_add_X6 hown hK hP 0 rfl rfl 3 (by decide) (hts _ hw_X6_add_f21) (fun _ h9 => h9) rfl dX6_add_15 ?_
  refine lv_iload_n hx hb dX6_add_18 rfl (lv_at hl 2 rfl) ?_
  refine va_iast hx hb hK hP hD hS 2 1 rfl rfl g_1 dX6_add_19 (fun H locs hP hD hS => ?_)
  obtain ⟨f_3, ef_3⟩ : ∃ z : Nat → Int32, z = upd s_olds s_count.toNatClampNeg x2 := ⟨_, rfl⟩
  have hf := plt_e ef_3 hf
  have hP : va_P D vwCl (w_X6_add a0 q_marshes q_olds q_youngs cA s_count f_2 f_3 s_youngs) H := by rw [ef_3]; exact hP
  have hD : va_D A (w_X6_add a0 q_marshes q_olds q_youngs cA s_count f_2 f_3 s_youngs) := by rw [ef_3]; exact hD
  refine lv_aload_n hx hb dX6_add_20 rfl (lv_at hl 0 rfl) ?_
  refine va_get (D := D) (ci := 6) (v := .ref q_youngs) (C := RX6) (T := TX6) (N := 4) hx hb hts hn_X6_add_X6 hown hK hP 0 rfl rfl 2 (by decide) (hts _ hw_X6_add_f18) (fun _ h9 => h9) rfl dX6_add_21 ?_
  refine lv_aload_n hx hb dX6_add_24 rfl (lv_at hl 0 rfl) ?_
  refine va_get (D := D) (ci := 6) (v := .int s_count) (C := RX6) (T := TX6) (N := 4) hx hb hts hn_X6_add_X6 hown hK hP 0 rfl rfl 3 (by decide) (hts _ hw_X6_add_f21) (fun _ h9 => h9) rfl dX6_add_25 ?_
  refine lv_iload_n hx hb dX6_add_28 rfl (lv_at hl 3 rfl) ?_
  refine va_iast hx hb hK hP hD hS 3 1 rfl rfl g_1 dX6_add_29 (fun H locs hP hD hS => ?_)
  obtain ⟨f_4, ef_4⟩ : ∃ z : Nat → Int32, z = upd s_youngs s_count.toNatClampNeg x3 := ⟨_, rfl⟩
  have hf := plt_e ef_4 hf
  have hP : va_P D vwCl (w_X6_add a0 q_marshes q_olds q_youngs cA s_count f_2 f_3 f_4) H := by rw [ef_4]; exact hP
  have hD : va_D A (w_X6_add a0 q_marshes q_olds q_youngs cA s_count f_2 f_3 f_4) := by rw [ef_4]; exact hD
  refine lv_aload_n hx hb dX6_add_30 rfl (lv_at hl 0 rfl) ?_
  refine lv_dup hx hb dX6_add_31 rfl ?_
  refine va_get (D := D) (ci := 6) (v := .int s_count) (C := RX6) (T := TX6) (N := 4) hx hb hts hn_X6_add_X6 hown hK hP 0 rfl rfl 3 (by decide) (hts _ hw_X6_add_f21) (fun _ h9 => h9) rfl dX6_add_32 ?_
  refine lv_dup_x1 hx hb dX6_add_35 rfl rfl ?_
  refine lv_iconst (v := (1 : Int32)) hx hb dX6_add_36 (by decide) ?_
  refine lv_iadd hx hb dX6_add_37 ?_
  refine lv_topi (fun count_5 ecount_5 => ?_)
  have hf := plt_e ecount_5 hf
  refine va_put (D := D) (ci := 6) (v := .int count_5) (ty := .int) (C := RX6) (T := TX6) (N := 4) hx hb hts hn_X6_add_X6 tyX6 tyX6_ok nmX6 hown hK hP hD hS 0 rfl rfl 3 (by decide) (hts _ hw_X6_add_f21) (fun _ h9 => h9) rfl (by decide +kernel) rfl rfl (Nat.le_of_ble_eq_true rfl) dX6_add_38 (fun H locs hP hD hS => ?_)
  have hP : va_P D vwCl (w_X6_add a0 q_marshes q_olds q_youngs cA count_5 f_2 f_3 f_4) H := hP
  have hD : va_D A (w_X6_add a0 q_marshes q_olds q_youngs cA count_5 f_2 f_3 f_4) := hD
  obtain ⟨rfl, rfl, rfl, rfl, rfl⟩ := pe5 hf
  exact m_iret hx hb hr hlocks hP hS dX6_add_41

/-! ===== OrphanWave$Sheets.become(LOrphanWave$Sheets;)V ===== -/
abbrev rm_X6_become : Room := { frames := 1, cells := 0, slots := 0, locals := 18 }
abbrev w_X6_become (a0 : Nat) (b1 : Nat) (b1_marshes : Nat) (q_marshes : Nat) (b1_olds : Nat) (q_olds : Nat) (b1_youngs : Nat) (q_youngs : Nat) (cA : Nat → ClassId) (s_count : Int32) (s_b1_count : Int32) (s_b1_marshes : Nat → Int32) (s_marshes : Nat → Int32) (s_b1_olds : Nat → Int32) (s_olds : Nat → Int32) (s_b1_youngs : Nat → Int32) (s_youngs : Nat → Int32) : va_W := [(a0, .inr (6, [.ref q_marshes, .ref q_olds, .ref q_youngs, .int s_count])), (b1, .inr (6, [.ref b1_marshes, .ref b1_olds, .ref b1_youngs, .int s_b1_count])), (b1_marshes, .inl (cA 1, 12, .inl s_b1_marshes)), (q_marshes, .inl (cA 1, 12, .inl s_marshes)), (b1_olds, .inl (cA 1, 12, .inl s_b1_olds)), (q_olds, .inl (cA 1, 12, .inl s_olds)), (b1_youngs, .inl (cA 1, 12, .inl s_b1_youngs)), (q_youngs, .inl (cA 1, 12, .inl s_youngs))]
theorem hn_X6_become_X6 : ∀ w ∈ u_ws RX6 TX6 4, w ∈ wsX6_become := by decide +kernel
theorem hw_X6_become_f9 : Cond.fieldLink RX6 9 "OrphanWave$Sheets" "marshes" "[I" ∈ wsX6_become := by decide +kernel
theorem hw_X6_become_f15 : Cond.fieldLink RX6 15 "OrphanWave$Sheets" "olds" "[I" ∈ wsX6_become := by decide +kernel
theorem hw_X6_become_f18 : Cond.fieldLink RX6 18 "OrphanWave$Sheets" "youngs" "[I" ∈ wsX6_become := by decide +kernel
theorem hw_X6_become_f21 : Cond.fieldLink RX6 21 "OrphanWave$Sheets" "count" "I" ∈ wsX6_become := by decide +kernel
theorem hw_X6_become_m25 : Cond.methodLink RX6 25 arraycopyName ∈ wsX6_become := by decide +kernel
theorem hw_X6_become_nac : Cond.native arraycopyName ∈ wsX6_become := by decide +kernel
theorem hw_X6_become_sac : Cond.static arraycopyName ∈ wsX6_become := by decide +kernel
theorem hw_X6_become_isys : Cond.initialized "java/lang/System" ∈ wsX6_become := by decide +kernel

def f_X6_become (s_count : Int32) (s_b1_count : Int32) (s_b1_marshes : Nat → Int32) (s_marshes : Nat → Int32) (s_b1_olds : Nat → Int32) (s_olds : Nat → Int32) (s_b1_youngs : Nat → Int32) (s_youngs : Nat → Int32) : Option ((Int32) × (Nat → Int32) × (Nat → Int32) × (Nat → Int32)) :=
  plt (va_cpy s_b1_marshes s_marshes (0 : Int32).toNatClampNeg (0 : Int32).toNatClampNeg (12 : Int32).toNatClampNeg : Nat → Int32) (fun f_1 => (
  plt (va_cpy s_b1_olds s_olds (0 : Int32).toNatClampNeg (0 : Int32).toNatClampNeg (12 : Int32).toNatClampNeg : Nat → Int32) (fun f_2 => (
  plt (va_cpy s_b1_youngs s_youngs (0 : Int32).toNatClampNeg (0 : Int32).toNatClampNeg (12 : Int32).toNatClampNeg : Nat → Int32) (fun f_3 => (
  some (s_b1_count, f_1, f_2, f_3)))))))

set_option maxRecDepth 100000 in
set_option maxHeartbeats 4000000 in
theorem ct_X6_become (l : Launch) (D : va_G) (cA : Nat → ClassId) (a0 : Nat) (b1 : Nat) (b1_marshes : Nat) (q_marshes : Nat) (b1_olds : Nat) (q_olds : Nat) (b1_youngs : Nat) (q_youngs : Nat) (s_count : Int32) (s_b1_count : Int32) (s_b1_marshes : Nat → Int32) (s_marshes : Nat → Int32) (s_b1_olds : Nat → Int32) (s_olds : Nat → Int32) (s_b1_youngs : Nat → Int32) (s_youngs : Nat → Int32) (o_count : Int32) (o_marshes : Nat → Int32) (o_olds : Nat → Int32) (o_youngs : Nat → Int32) (hf : f_X6_become s_count s_b1_count s_b1_marshes s_marshes s_b1_olds s_olds s_b1_youngs s_youngs = some (o_count, o_marshes, o_olds, o_youngs)) : CT l yX6_become wsX6_become rm_X6_become D cA [.ref a0, .ref b1] (w_X6_become a0 b1 b1_marshes q_marshes b1_olds q_olds b1_youngs q_youngs cA s_count s_b1_count s_b1_marshes s_marshes s_b1_olds s_olds s_b1_youngs s_youngs) (w_X6_become a0 b1 b1_marshes q_marshes b1_olds q_olds b1_youngs q_youngs cA o_count s_b1_count s_b1_marshes o_marshes s_b1_olds o_olds s_b1_youngs o_youngs) none := by
  refine CT.ofW (cc := cX6_become) (maxL := 2) (ret := none) (by decide +kernel) rfl (Nat.le_of_ble_eq_true rfl) ?_
  intro p e s m below meth c A C0 hA hP hD ls hl
  have C0 : MX p s m [.ref a0, .ref b1].toArray meth c cX6_become 2 wsX6_become RX6 none D cA := C0
  have hl : lv_has ls 2 [(0, .ref a0), (1, .ref b1)] := hl
  obtain ⟨hx, hb, hml, hown, hts, hr, hlocks, hX⟩ := id C0
  have hK := hX.1
  have hN := hX.2
  have hS : va_S A s.heap s.heap [] := va_S.rf
  unfold f_X6_become at hf
  refine lv_aload_n hx hb dX6_become_0 rfl (lv_at hl 1 rfl) ?_
  refine va_get (D := D) (ci := 6) (v := .ref b1_marshes) (C := RX6) (T := TX6) (N := 4) hx hb hts hn_X6_become_X6 hown hK hP 1 rfl rfl 0 (by decide) (hts _ hw_X6_become_f9) (fun _ h9 => h9) rfl dX6_become_1 ?_
  refine lv_iconst (v := (0 : Int32)) hx hb dX6_become_4 (by decide) ?_
  refine lv_aload_n hx hb dX6_become_5 rfl (lv_at hl 0 rfl) ?_
  refine va_get (D := D) (ci := 6) (v := .ref q_marshes) (C := RX6) (T := TX6) (N := 4) hx hb hts hn_X6_become_X6 hown hK hP 0 rfl rfl 0 (by decide) (hts _ hw_X6_become_f9) (fun _ h9 => h9) rfl dX6_become_6 ?_
  refine lv_iconst (v := (0 : Int32)) hx hb dX6_become_9 (by decide) ?_
  refine lv_bipush (v := (12 : Int32)) hx hb dX6_become_10 (by decide) ?_
  refine va_copyi (ty := .int) hx hb (hml.trans hl.1.symm) hown (hts _ hw_X6_become_m25) (hts _ hw_X6_become_nac) (hts _ hw_X6_become_sac) (hts _ hw_X6_become_isys) hK hP hD hS 2 3 1 1 rfl rfl rfl rfl rfl (by decide) (by decide) (by decide) (by decide +kernel) (by decide +kernel) (fun _ _ => rfl) (Nat.le_of_ble_eq_true rfl) (Nat.le_of_ble_eq_true rfl) dX6_become_12 (fun H locs hP hD hS => ?_)
  obtain ⟨f_1, ef_1⟩ : ∃ z : Nat → Int32, z = va_cpy s_b1_marshes s_marshes (0 : Int32).toNatClampNeg (0 : Int32).toNatClampNeg (12 : Int32).toNatClampNeg := ⟨_, rfl⟩
  have hf := plt_e ef_1 hf
  have hP : va_P D vwCl (w_X6_become a0 b1 b1_marshes q_marshes b1_olds q_olds b1_youngs q_youngs cA s_count s_b1_count s_b1_marshes f_1 s_b1_olds s_olds s_b1_youngs s_youngs) H := by rw [ef_1]; exact hP
  have hD : va_D A (w_X6_become a0 b1 b1_marshes q_marshes b1_olds q_olds b1_youngs q_youngs cA s_count s_b1_count s_b1_marshes f_1 s_b1_olds s_olds s_b1_youngs s_youngs) := by rw [ef_1]; exact hD
  refine lv_aload_n hx hb dX6_become_15 rfl (lv_at hl 1 rfl) ?_
  refine va_get (D := D) (ci := 6) (v := .ref b1_olds) (C := RX6) (T := TX6) (N := 4) hx hb hts hn_X6_become_X6 hown hK hP 1 rfl rfl 1 (by decide) (hts _ hw_X6_become_f15) (fun _ h9 => h9) rfl dX6_become_16 ?_
  refine lv_iconst (v := (0 : Int32)) hx hb dX6_become_19 (by decide) ?_
  refine lv_aload_n hx hb dX6_become_20 rfl (lv_at hl 0 rfl) ?_
  refine va_get (D := D) (ci := 6) (v := .ref q_olds) (C := RX6) (T := TX6) (N := 4) hx hb hts hn_X6_become_X6 hown hK hP 0 rfl rfl 1 (by decide) (hts _ hw_X6_become_f15) (fun _ h9 => h9) rfl dX6_become_21 ?_
  refine lv_iconst (v := (0 : Int32)) hx hb dX6_become_24 (by decide) ?_
  refine lv_bipush (v := (12 : Int32)) hx hb dX6_become_25 (by decide) ?_
  refine va_copyi (ty := .int) hx hb (hml.trans hl.1.symm) hown (hts _ hw_X6_become_m25) (hts _ hw_X6_become_nac) (hts _ hw_X6_become_sac) (hts _ hw_X6_become_isys) hK hP hD hS 4 5 1 1 rfl rfl rfl rfl rfl (by decide) (by decide) (by decide) (by decide +kernel) (by decide +kernel) (fun _ _ => rfl) (Nat.le_of_ble_eq_true rfl) (Nat.le_of_ble_eq_true rfl) dX6_become_27 (fun H locs hP hD hS => ?_)
  obtain ⟨f_2, ef_2⟩ : ∃ z : Nat → Int32, z = va_cpy s_b1_olds s_olds (0 : Int32).toNatClampNeg (0 : Int32).toNatClampNeg (12 : Int32).toNatClampNeg := ⟨_, rfl⟩
  have hf := plt_e ef_2 hf
  have hP : va_P D vwCl (w_X6_become a0 b1 b1_marshes q_marshes b1_olds q_olds b1_youngs q_youngs cA s_count s_b1_count s_b1_marshes f_1 s_b1_olds f_2 s_b1_youngs s_youngs) H := by rw [ef_2]; exact hP
  have hD : va_D A (w_X6_become a0 b1 b1_marshes q_marshes b1_olds q_olds b1_youngs q_youngs cA s_count s_b1_count s_b1_marshes f_1 s_b1_olds f_2 s_b1_youngs s_youngs) := by rw [ef_2]; exact hD
  refine lv_aload_n hx hb dX6_become_30 rfl (lv_at hl 1 rfl) ?_
  refine va_get (D := D) (ci := 6) (v := .ref b1_youngs) (C := RX6) (T := TX6) (N := 4) hx hb hts hn_X6_become_X6 hown hK hP 1 rfl rfl 2 (by decide) (hts _ hw_X6_become_f18) (fun _ h9 => h9) rfl dX6_become_31 ?_
  refine lv_iconst (v := (0 : Int32)) hx hb dX6_become_34 (by decide) ?_
  refine lv_aload_n hx hb dX6_become_35 rfl (lv_at hl 0 rfl) ?_
  refine va_get (D := D) (ci := 6) (v := .ref q_youngs) (C := RX6) (T := TX6) (N := 4) hx hb hts hn_X6_become_X6 hown hK hP 0 rfl rfl 2 (by decide) (hts _ hw_X6_become_f18) (fun _ h9 => h9) rfl dX6_become_36 ?_
  refine lv_iconst (v := (0 : Int32)) hx hb dX6_become_39 (by decide) ?_
  refine lv_bipush (v := (12 : Int32)) hx hb dX6_become_40 (by decide) ?_
  refine va_copyi (ty := .int) hx hb (hml.trans hl.1.symm) hown (hts _ hw_X6_become_m25) (hts _ hw_X6_become_nac) (hts _ hw_X6_become_sac) (hts _ hw_X6_become_isys) hK hP hD hS 6 7 1 1 rfl rfl rfl rfl rfl (by decide) (by decide) (by decide) (by decide +kernel) (by decide +kernel) (fun _ _ => rfl) (Nat.le_of_ble_eq_true rfl) (Nat.le_of_ble_eq_true rfl) dX6_become_42 (fun H locs hP hD hS => ?_)
  obtain ⟨f_3, ef_3⟩ : ∃ z : Nat → Int32, z = va_cpy s_b1_youngs s_youngs (0 : Int32).toNatClampNeg (0 : Int32).toNatClampNeg (12 : Int32).toNatClampNeg := ⟨_, rfl⟩
  have hf := plt_e ef_3 hf
  have hP : va_P D vwCl (w_X6_become a0 b1 b1_marshes q_marshes b1_olds q_olds b1_youngs q_youngs cA s_count s_b1_count s_b1_marshes f_1 s_b1_olds f_2 s_b1_youngs f_3) H := by rw [ef_3]; exact hP
  have hD : va_D A (w_X6_become a0 b1 b1_marshes q_marshes b1_olds q_olds b1_youngs q_youngs cA s_count s_b1_count s_b1_marshes f_1 s_b1_olds f_2 s_b1_youngs f_3) := by rw [ef_3]; exact hD
  refine lv_aload_n hx hb dX6_become_45 rfl (lv_at hl 0 rfl) ?_
  refine lv_aload_n hx hb dX6_become_46 rfl (lv_at hl 1 rfl) ?_
  refine va_get (D := D) (ci := 6) (v := .int s_b1_count) (C := RX6) (T := TX6) (N := 4) hx hb hts hn_X6_become_X6 hown hK hP 1 rfl rfl 3 (by decide) (hts _ hw_X6_become_f21) (fun _ h9 => h9) rfl dX6_become_47 ?_
  refine va_put (D := D) (ci := 6) (v := .int s_b1_count) (ty := .int) (C := RX6) (T := TX6) (N := 4) hx hb hts hn_X6_become_X6 tyX6 tyX6_ok nmX6 hown hK hP hD hS 0 rfl rfl 3 (by decide) (hts _ hw_X6_become_f21) (fun _ h9 => h9) rfl (by decide +kernel) rfl rfl (Nat.le_of_ble_eq_true rfl) dX6_become_50 (fun H locs hP hD hS => ?_)
  have hP : va_P D vwCl (w_X6_become a0 b1 b1_marshes q_marshes b1_olds q_olds b1_youngs q_youngs cA s_b1_count s_b1_count s_b1_marshes f_1 s_b1_olds f_2 s_b1_youngs f_3) H := hP
  have hD : va_D A (w_X6_become a0 b1 b1_marshes q_marshes b1_olds q_olds b1_youngs q_youngs cA s_b1_count s_b1_count s_b1_marshes f_1 s_b1_olds f_2 s_b1_youngs f_3) := hD
  obtain ⟨rfl, rfl, rfl, rfl⟩ := pe4 hf
  exact m_vret hx hb hr hlocks hP hS dX6_become_53

/-! ===== OrphanWave$Sheets.all()I ===== -/
abbrev rm_X6_all : Room := { frames := 0, cells := 0, slots := 0, locals := 0 }
abbrev w_X6_all (a0 : Nat) (q_marshes : Nat) (q_olds : Nat) (q_youngs : Nat) (cA : Nat → ClassId) (s_count : Int32) : va_W := [(a0, .inr (6, [.ref q_marshes, .ref q_olds, .ref q_youngs, .int s_count]))]
theorem hn_X6_all_X6 : ∀ w ∈ u_ws RX6 TX6 4, w ∈ wsX6_all := by decide +kernel
theorem hw_X6_all_f21 : Cond.fieldLink RX6 21 "OrphanWave$Sheets" "count" "I" ∈ wsX6_all := by decide +kernel

def f_X6_all (s_count : Int32) : Option ((Int32)) :=
  some ((((1 : Int32) <<< (s_count &&& 31)) - (1 : Int32)))

set_option maxRecDepth 100000 in
set_option maxHeartbeats 4000000 in
theorem ct_X6_all (l : Launch) (D : va_G) (cA : Nat → ClassId) (a0 : Nat) (q_marshes : Nat) (q_olds : Nat) (q_youngs : Nat) (s_count : Int32) (o_r : Int32) (hf : f_X6_all s_count = some o_r) : CT l yX6_all wsX6_all rm_X6_all D cA [.ref a0] (w_X6_all a0 q_marshes q_olds q_youngs cA s_count) (w_X6_all a0 q_marshes q_olds q_youngs cA s_count) (some (.int o_r)) := by
  refine CT.ofW (cc := cX6_all) (maxL := 1) (ret := (some .int)) (by decide +kernel) rfl (Nat.le_of_ble_eq_true rfl) ?_
  intro p e s m below meth c A C0 hA hP hD ls hl
  have C0 : MX p s m [.ref a0].toArray meth c cX6_all 1 wsX6_all RX6 (some .int) D cA := C0
  have hl : lv_has ls 1 [(0, .ref a0)] := hl
  obtain ⟨hx, hb, hml, hown, hts, hr, hlocks, hX⟩ := id C0
  have hK := hX.1
  have hN := hX.2
  have hS : va_S A s.heap s.heap [] := va_S.rf
  unfold f_X6_all at hf
  refine lv_iconst (v := (1 : Int32)) hx hb dX6_all_0 (by decide) ?_
  refine lv_aload_n hx hb dX6_all_1 rfl (lv_at hl 0 rfl) ?_
  refine va_get (D := D) (ci := 6) (v := .int s_count) (C := RX6) (T := TX6) (N := 4) hx hb hts hn_X6_all_X6 hown hK hP 0 rfl rfl 3 (by decide) (hts _ hw_X6_all_f21) (fun _ h9 => h9) rfl dX6_all_2 ?_
  refine lv_ishl hx hb dX6_all_5 ?_
  refine lv_iconst (v := (1 : Int32)) hx hb dX6_all_6 (by decide) ?_
  refine lv_isub hx hb dX6_all_7 ?_
  obtain rfl := pe1 hf
  exact m_iret hx hb hr hlocks hP hS dX6_all_8

/-! ===== OrphanWave$Sheets.firstShared(I)I ===== -/
abbrev rm_X6_firstShared : Room := { frames := 1, cells := 0, slots := 0, locals := 13 }
abbrev w_X6_firstShared (a0 : Nat) (q_olds : Nat) (q_marshes : Nat) (q_youngs : Nat) (cA : Nat → ClassId) (s_count : Int32) (s_olds : Nat → Int32) : va_W := [(a0, .inr (6, [.ref q_marshes, .ref q_olds, .ref q_youngs, .int s_count])), (q_olds, .inl (cA 1, 12, .inl s_olds))]
theorem hn_X6_firstShared_X6 : ∀ w ∈ u_ws RX6 TX6 4, w ∈ wsX6_firstShared := by decide +kernel
theorem hw_X6_firstShared_f21 : Cond.fieldLink RX6 21 "OrphanWave$Sheets" "count" "I" ∈ wsX6_firstShared := by decide +kernel
theorem hw_X6_firstShared_f15 : Cond.fieldLink RX6 15 "OrphanWave$Sheets" "olds" "[I" ∈ wsX6_firstShared := by decide +kernel
theorem hw_X6_firstShared_m31 : Cond.methodLink RX6 31 Lib.Math.max.name ∈ wsX6_firstShared := by decide +kernel
theorem hw_X6_firstShared_smax : Cond.static Lib.Math.max.name ∈ wsX6_firstShared := by decide +kernel
theorem hw_X6_firstShared_imath : Cond.initialized "java/lang/Math" ∈ wsX6_firstShared := by decide +kernel
theorem hw_X6_firstShared_kmax : Cond.code Lib.Math.max.name Lib.Math.max.code 2 (some .int) ∈ wsX6_firstShared := by decide +kernel

def f_X6_firstShared_4 (s_count : Int32) (s_olds : Nat → Int32) (x1 : Int32) : Nat → (Int32) → (Int32) → Option ((Int32))
  | 0, _, _ => none
  | k + 1, x2, x3 =>
    pbr (s_count ≤ x3)
      (some (x2))
      (pbr (((x1 >>> (x3 &&& 31)) &&& (1 : Int32)) = (1 : Int32))
        (pgd (pin x3 12) (
        plt ((if x2 < (s_olds x3.toNatClampNeg) then (s_olds x3.toNatClampNeg) else x2) : Int32) (fun x2_5 => (
        plt (x3 + (1 : Int32) : Int32) (fun x3_6 => (
        (f_X6_firstShared_4 s_count s_olds x1 k) x2_5 x3_6))))))
        (plt (x3 + (1 : Int32) : Int32) (fun x3_3 => (
        (f_X6_firstShared_4 s_count s_olds x1 k) x2 x3_3))))

set_option maxRecDepth 100000 in
set_option maxHeartbeats 4000000 in
theorem k_X6_firstShared_4 {p : Program} {l : Launch} {e : Env} {s : State} {m : MethodId} {args : Array Value} {below : List Frame} {meth : Method} {c : Code} {A : Nat → Prop} {D : va_G} {cA : Nat → ClassId} (C0 : MX p s m args meth c cX6_firstShared 4 wsX6_firstShared RX6 (some .int) D cA) (hA : ∀ q, s.heap.size ≤ q → A q) {a0 : Nat} {q_olds : Nat} {q_marshes : Nat} {q_youngs : Nat} {s_count : Int32} {s_olds : Nat → Int32} {x1 : Int32} {o_r : Int32} : ∀ (k : Nat) (x2 : Int32) (x3 : Int32), f_X6_firstShared_4 s_count s_olds x1 k x2 x3 = some o_r → ∀ (H : Heap) (locs : List Loc), va_P D vwCl (w_X6_firstShared a0 q_olds q_marshes q_youngs cA s_count s_olds) H → va_D A (w_X6_firstShared a0 q_olds q_marshes q_youngs cA s_count s_olds) → va_S A s.heap H locs → ∀ ls : Array Slot, lv_has ls 4 [(0, .ref a0), (1, .int x1), (2, .int x2), (3, .int x3)] → W p l e rm_X6_firstShared s m args below meth c H locs 0 0 (MQ below (CQ D (some (.int o_r)) (w_X6_firstShared a0 q_olds q_marshes q_youngs cA s_count s_olds) A) args s 0 0 A) (F0 m 4 ls []) := by
  obtain ⟨hx, hb, hml, hown, hts, hr, hlocks, hX⟩ := C0
  have hK := hX.1
  have hN := hX.2
  intro k
  induction k with
  | zero =>
    intro x2 x3 hf
    cases hf
  | succ k ih =>
    intro x2 x3 hf H locs hP hD hS ls hl
    rw [f_X6_firstShared_4] at hf
    refine lv_iload_n hx hb dX6_firstShared_4 rfl (lv_at hl 3 rfl) ?_
    refine lv_aload_n hx hb dX6_firstShared_5 rfl (lv_at hl 0 rfl) ?_
    refine va_get (D := D) (ci := 6) (v := .int s_count) (C := RX6) (T := TX6) (N := 4) hx hb hts hn_X6_firstShared_X6 hown hK hP 0 rfl rfl 3 (by decide) (hts _ hw_X6_firstShared_f21) (fun _ h9 => h9) rfl dX6_firstShared_6 ?_
    refine lv_icmp_ge (tgt := 38) hx hb dX6_firstShared_9 (by decide) (fun c_1 => ?_) (fun c_1 => ?_)
    · have hf := pbr_t c_1 hf
      refine lv_iload_n hx hb dX6_firstShared_38 rfl (lv_at hl 2 rfl) ?_
      obtain rfl := pe1 hf
      exact m_iret hx hb hr hlocks hP hS dX6_firstShared_39
    have hf := pbr_f c_1 hf
    refine lv_iload_n hx hb dX6_firstShared_12 rfl (lv_at hl 1 rfl) ?_
    refine lv_iload_n hx hb dX6_firstShared_13 rfl (lv_at hl 3 rfl) ?_
    refine lv_ishr hx hb dX6_firstShared_14 ?_
    refine lv_iconst (v := (1 : Int32)) hx hb dX6_firstShared_15 (by decide) ?_
    refine lv_iand hx hb dX6_firstShared_16 ?_
    refine lv_iconst (v := (1 : Int32)) hx hb dX6_firstShared_17 (by decide) ?_
    refine lv_icmp_ne (tgt := 32) hx hb dX6_firstShared_18 (by decide) (fun c_2 => ?_) (fun c_2 => ?_)
    · have hf := pbr_f c_2 hf
      obtain ⟨x3_3, ex3_3⟩ : ∃ z : Int32, z = x3 + (1 : Int32) := ⟨_, rfl⟩
      have hf := plt_e ex3_3 hf
      refine lv_iinc (v := x3_3) (lv' := [(3, .int x3_3), (0, .ref a0), (1, .int x1), (2, .int x2)]) hx hb dX6_firstShared_32 hl (k := 3) rfl (by rw [ex3_3]; rfl) (by decide) rfl (fun ls hl => ?_)
      refine lv_goto (tgt := 4) hx hb dX6_firstShared_35 (by decide) ?_
      exact ih x2 x3_3 hf _ _ hP hD hS ls (lv_sub hl [1, 2, 3, 0] rfl)
    have hf := pbr_t c_2 hf
    refine lv_iload_n hx hb dX6_firstShared_21 rfl (lv_at hl 2 rfl) ?_
    refine lv_aload_n hx hb dX6_firstShared_22 rfl (lv_at hl 0 rfl) ?_
    refine va_get (D := D) (ci := 6) (v := .ref q_olds) (C := RX6) (T := TX6) (N := 4) hx hb hts hn_X6_firstShared_X6 hown hK hP 0 rfl rfl 1 (by decide) (hts _ hw_X6_firstShared_f15) (fun _ h9 => h9) rfl dX6_firstShared_23 ?_
    refine lv_iload_n hx hb dX6_firstShared_26 rfl (lv_at hl 3 rfl) ?_
    obtain ⟨g_4, hf⟩ := pgd_e hf
    refine va_iald hx hb hK hP 1 1 rfl rfl g_4 dX6_firstShared_27 ?_
    refine va_mmax hx hb (hml.trans hl.1.symm) hown (hts _ hw_X6_firstShared_m31) (hts _ hw_X6_firstShared_smax) (hts _ hw_X6_firstShared_imath) (hts _ hw_X6_firstShared_kmax) (Nat.le_of_ble_eq_true rfl) (Nat.le_of_ble_eq_true rfl) (Nat.zero_le _) (Nat.zero_le _) dX6_firstShared_28 ?_
    refine lv_topi (fun x2_5 ex2_5 => ?_)
    have hf := plt_e ex2_5 hf
    refine lv_istore_n (lv' := [(2, .int x2_5), (0, .ref a0), (1, .int x1), (3, .int x3)]) hx hb dX6_firstShared_31 rfl hl (by decide) rfl (fun ls hl => ?_)
    obtain ⟨x3_6, ex3_6⟩ : ∃ z : Int32, z = x3 + (1 : Int32) := ⟨_, rfl⟩
    have hf := plt_e ex3_6 hf
    refine lv_iinc (v := x3_6) (lv' := [(3, .int x3_6), (2, .int x2_5), (0, .ref a0), (1, .int x1)]) hx hb dX6_firstShared_32 hl (k := 3) rfl (by rw [ex3_6]; rfl) (by decide) rfl (fun ls hl => ?_)
    refine lv_goto (tgt := 4) hx hb dX6_firstShared_35 (by decide) ?_
    exact ih x2_5 x3_6 hf _ _ hP hD hS ls (lv_sub hl [2, 3, 1, 0] rfl)

def f_X6_firstShared (x1 : Int32) (s_count : Int32) (s_olds : Nat → Int32) : Option ((Int32)) :=
  f_X6_firstShared_4 s_count s_olds x1 FU (0 : Int32) (0 : Int32)

set_option maxRecDepth 100000 in
set_option maxHeartbeats 4000000 in
theorem ct_X6_firstShared (l : Launch) (D : va_G) (cA : Nat → ClassId) (x1 : Int32) (a0 : Nat) (q_olds : Nat) (q_marshes : Nat) (q_youngs : Nat) (s_count : Int32) (s_olds : Nat → Int32) (o_r : Int32) (hf : f_X6_firstShared x1 s_count s_olds = some o_r) : CT l yX6_firstShared wsX6_firstShared rm_X6_firstShared D cA [.ref a0, .int x1] (w_X6_firstShared a0 q_olds q_marshes q_youngs cA s_count s_olds) (w_X6_firstShared a0 q_olds q_marshes q_youngs cA s_count s_olds) (some (.int o_r)) := by
  refine CT.ofW (cc := cX6_firstShared) (maxL := 4) (ret := (some .int)) (by decide +kernel) rfl (Nat.le_of_ble_eq_true rfl) ?_
  intro p e s m below meth c A C0 hA hP hD ls hl
  have C0 : MX p s m [.ref a0, .int x1].toArray meth c cX6_firstShared 4 wsX6_firstShared RX6 (some .int) D cA := C0
  have hl : lv_has ls 4 [(0, .ref a0), (1, .int x1)] := hl
  obtain ⟨hx, hb, hml, hown, hts, hr, hlocks, hX⟩ := id C0
  have hK := hX.1
  have hN := hX.2
  have hS : va_S A s.heap s.heap [] := va_S.rf
  unfold f_X6_firstShared at hf
  refine lv_iconst (v := (0 : Int32)) hx hb dX6_firstShared_0 (by decide) ?_
  refine lv_istore_n (lv' := [(2, .int (0 : Int32)), (0, .ref a0), (1, .int x1)]) hx hb dX6_firstShared_1 rfl hl (by decide) rfl (fun ls hl => ?_)
  refine lv_iconst (v := (0 : Int32)) hx hb dX6_firstShared_2 (by decide) ?_
  refine lv_istore_n (lv' := [(3, .int (0 : Int32)), (2, .int (0 : Int32)), (0, .ref a0), (1, .int x1)]) hx hb dX6_firstShared_3 rfl hl (by decide) rfl (fun ls hl => ?_)
  exact k_X6_firstShared_4 C0 hA FU (0 : Int32) (0 : Int32) hf _ _ hP hD hS ls (lv_sub hl [2, 3, 1, 0] rfl)

/-! ===== OrphanWave$Sheets.lastShared(I)I ===== -/
abbrev rm_X6_lastShared : Room := { frames := 1, cells := 0, slots := 0, locals := 13 }
abbrev w_X6_lastShared (a0 : Nat) (q_youngs : Nat) (q_marshes : Nat) (q_olds : Nat) (cA : Nat → ClassId) (s_count : Int32) (s_youngs : Nat → Int32) : va_W := [(a0, .inr (6, [.ref q_marshes, .ref q_olds, .ref q_youngs, .int s_count])), (q_youngs, .inl (cA 1, 12, .inl s_youngs))]
theorem hn_X6_lastShared_X6 : ∀ w ∈ u_ws RX6 TX6 4, w ∈ wsX6_lastShared := by decide +kernel
theorem hw_X6_lastShared_f21 : Cond.fieldLink RX6 21 "OrphanWave$Sheets" "count" "I" ∈ wsX6_lastShared := by decide +kernel
theorem hw_X6_lastShared_f18 : Cond.fieldLink RX6 18 "OrphanWave$Sheets" "youngs" "[I" ∈ wsX6_lastShared := by decide +kernel
theorem hw_X6_lastShared_m37 : Cond.methodLink RX6 37 Lib.Math.min.name ∈ wsX6_lastShared := by decide +kernel
theorem hw_X6_lastShared_smin : Cond.static Lib.Math.min.name ∈ wsX6_lastShared := by decide +kernel
theorem hw_X6_lastShared_imath : Cond.initialized "java/lang/Math" ∈ wsX6_lastShared := by decide +kernel
theorem hw_X6_lastShared_kmin : Cond.code Lib.Math.min.name Lib.Math.min.code 2 (some .int) ∈ wsX6_lastShared := by decide +kernel

def f_X6_lastShared_6 (s_count : Int32) (s_youngs : Nat → Int32) (x1 : Int32) : Nat → (Int32) → (Int32) → Option ((Int32))
  | 0, _, _ => none
  | k + 1, x2, x3 =>
    pbr (s_count ≤ x3)
      (some (x2))
      (pbr (((x1 >>> (x3 &&& 31)) &&& (1 : Int32)) = (1 : Int32))
        (pgd (pin x3 12) (
        plt ((if (s_youngs x3.toNatClampNeg) < x2 then (s_youngs x3.toNatClampNeg) else x2) : Int32) (fun x2_5 => (
        plt (x3 + (1 : Int32) : Int32) (fun x3_6 => (
        (f_X6_lastShared_6 s_count s_youngs x1 k) x2_5 x3_6))))))
        (plt (x3 + (1 : Int32) : Int32) (fun x3_3 => (
        (f_X6_lastShared_6 s_count s_youngs x1 k) x2 x3_3))))

set_option maxRecDepth 100000 in
set_option maxHeartbeats 4000000 in
theorem k_X6_lastShared_6 {p : Program} {l : Launch} {e : Env} {s : State} {m : MethodId} {args : Array Value} {below : List Frame} {meth : Method} {c : Code} {A : Nat → Prop} {D : va_G} {cA : Nat → ClassId} (C0 : MX p s m args meth c cX6_lastShared 4 wsX6_lastShared RX6 (some .int) D cA) (hA : ∀ q, s.heap.size ≤ q → A q) {a0 : Nat} {q_youngs : Nat} {q_marshes : Nat} {q_olds : Nat} {s_count : Int32} {s_youngs : Nat → Int32} {x1 : Int32} {o_r : Int32} : ∀ (k : Nat) (x2 : Int32) (x3 : Int32), f_X6_lastShared_6 s_count s_youngs x1 k x2 x3 = some o_r → ∀ (H : Heap) (locs : List Loc), va_P D vwCl (w_X6_lastShared a0 q_youngs q_marshes q_olds cA s_count s_youngs) H → va_D A (w_X6_lastShared a0 q_youngs q_marshes q_olds cA s_count s_youngs) → va_S A s.heap H locs → ∀ ls : Array Slot, lv_has ls 4 [(0, .ref a0), (1, .int x1), (2, .int x2), (3, .int x3)] → W p l e rm_X6_lastShared s m args below meth c H locs 0 0 (MQ below (CQ D (some (.int o_r)) (w_X6_lastShared a0 q_youngs q_marshes q_olds cA s_count s_youngs) A) args s 0 0 A) (F0 m 6 ls []) := by
  obtain ⟨hx, hb, hml, hown, hts, hr, hlocks, hX⟩ := C0
  have hK := hX.1
  have hN := hX.2
  intro k
  induction k with
  | zero =>
    intro x2 x3 hf
    cases hf
  | succ k ih =>
    intro x2 x3 hf H locs hP hD hS ls hl
    rw [f_X6_lastShared_6] at hf
    refine lv_iload_n hx hb dX6_lastShared_6 rfl (lv_at hl 3 rfl) ?_
    refine lv_aload_n hx hb dX6_lastShared_7 rfl (lv_at hl 0 rfl) ?_
    refine va_get (D := D) (ci := 6) (v := .int s_count) (C := RX6) (T := TX6) (N := 4) hx hb hts hn_X6_lastShared_X6 hown hK hP 0 rfl rfl 3 (by decide) (hts _ hw_X6_lastShared_f21) (fun _ h9 => h9) rfl dX6_lastShared_8 ?_
    refine lv_icmp_ge (tgt := 40) hx hb dX6_lastShared_11 (by decide) (fun c_1 => ?_) (fun c_1 => ?_)
    · have hf := pbr_t c_1 hf
      refine lv_iload_n hx hb dX6_lastShared_40 rfl (lv_at hl 2 rfl) ?_
      obtain rfl := pe1 hf
      exact m_iret hx hb hr hlocks hP hS dX6_lastShared_41
    have hf := pbr_f c_1 hf
    refine lv_iload_n hx hb dX6_lastShared_14 rfl (lv_at hl 1 rfl) ?_
    refine lv_iload_n hx hb dX6_lastShared_15 rfl (lv_at hl 3 rfl) ?_
    refine lv_ishr hx hb dX6_lastShared_16 ?_
    refine lv_iconst (v := (1 : Int32)) hx hb dX6_lastShared_17 (by decide) ?_
    refine lv_iand hx hb dX6_lastShared_18 ?_
    refine lv_iconst (v := (1 : Int32)) hx hb dX6_lastShared_19 (by decide) ?_
    refine lv_icmp_ne (tgt := 34) hx hb dX6_lastShared_20 (by decide) (fun c_2 => ?_) (fun c_2 => ?_)
    · have hf := pbr_f c_2 hf
      obtain ⟨x3_3, ex3_3⟩ : ∃ z : Int32, z = x3 + (1 : Int32) := ⟨_, rfl⟩
      have hf := plt_e ex3_3 hf
      refine lv_iinc (v := x3_3) (lv' := [(3, .int x3_3), (0, .ref a0), (1, .int x1), (2, .int x2)]) hx hb dX6_lastShared_34 hl (k := 3) rfl (by rw [ex3_3]; rfl) (by decide) rfl (fun ls hl => ?_)
      refine lv_goto (tgt := 6) hx hb dX6_lastShared_37 (by decide) ?_
      exact ih x2 x3_3 hf _ _ hP hD hS ls (lv_sub hl [1, 2, 3, 0] rfl)
    have hf := pbr_t c_2 hf
    refine lv_iload_n hx hb dX6_lastShared_23 rfl (lv_at hl 2 rfl) ?_
    refine lv_aload_n hx hb dX6_lastShared_24 rfl (lv_at hl 0 rfl) ?_
    refine va_get (D := D) (ci := 6) (v := .ref q_youngs) (C := RX6) (T := TX6) (N := 4) hx hb hts hn_X6_lastShared_X6 hown hK hP 0 rfl rfl 2 (by decide) (hts _ hw_X6_lastShared_f18) (fun _ h9 => h9) rfl dX6_lastShared_25 ?_
    refine lv_iload_n hx hb dX6_lastShared_28 rfl (lv_at hl 3 rfl) ?_
    obtain ⟨g_4, hf⟩ := pgd_e hf
    refine va_iald hx hb hK hP 1 1 rfl rfl g_4 dX6_lastShared_29 ?_
    refine va_mmin hx hb (hml.trans hl.1.symm) hown (hts _ hw_X6_lastShared_m37) (hts _ hw_X6_lastShared_smin) (hts _ hw_X6_lastShared_imath) (hts _ hw_X6_lastShared_kmin) (Nat.le_of_ble_eq_true rfl) (Nat.le_of_ble_eq_true rfl) (Nat.zero_le _) (Nat.zero_le _) dX6_lastShared_30 ?_
    refine lv_topi (fun x2_5 ex2_5 => ?_)
    have hf := plt_e ex2_5 hf
    refine lv_istore_n (lv' := [(2, .int x2_5), (0, .ref a0), (1, .int x1), (3, .int x3)]) hx hb dX6_lastShared_33 rfl hl (by decide) rfl (fun ls hl => ?_)
    obtain ⟨x3_6, ex3_6⟩ : ∃ z : Int32, z = x3 + (1 : Int32) := ⟨_, rfl⟩
    have hf := plt_e ex3_6 hf
    refine lv_iinc (v := x3_6) (lv' := [(3, .int x3_6), (2, .int x2_5), (0, .ref a0), (1, .int x1)]) hx hb dX6_lastShared_34 hl (k := 3) rfl (by rw [ex3_6]; rfl) (by decide) rfl (fun ls hl => ?_)
    refine lv_goto (tgt := 6) hx hb dX6_lastShared_37 (by decide) ?_
    exact ih x2_5 x3_6 hf _ _ hP hD hS ls (lv_sub hl [2, 3, 1, 0] rfl)

def f_X6_lastShared (x1 : Int32) (s_count : Int32) (s_youngs : Nat → Int32) : Option ((Int32)) :=
  f_X6_lastShared_6 s_count s_youngs x1 FU (9999 : Int32) (0 : Int32)

set_option maxRecDepth 100000 in
set_option maxHeartbeats 4000000 in
theorem ct_X6_lastShared (l : Launch) (D : va_G) (cA : Nat → ClassId) (x1 : Int32) (a0 : Nat) (q_youngs : Nat) (q_marshes : Nat) (q_olds : Nat) (s_count : Int32) (s_youngs : Nat → Int32) (o_r : Int32) (hf : f_X6_lastShared x1 s_count s_youngs = some o_r) : CT l yX6_lastShared wsX6_lastShared rm_X6_lastShared D cA [.ref a0, .int x1] (w_X6_lastShared a0 q_youngs q_marshes q_olds cA s_count s_youngs) (w_X6_lastShared a0 q_youngs q_marshes q_olds cA s_count s_youngs) (some (.int o_r)) := by
  refine CT.ofW (cc := cX6_lastShared) (maxL := 4) (ret := (some .int)) (by decide +kernel) rfl (Nat.le_of_ble_eq_true rfl) ?_
  intro p e s m below meth c A C0 hA hP hD ls hl
  have C0 : MX p s m [.ref a0, .int x1].toArray meth c cX6_lastShared 4 wsX6_lastShared RX6 (some .int) D cA := C0
  have hl : lv_has ls 4 [(0, .ref a0), (1, .int x1)] := hl
  obtain ⟨hx, hb, hml, hown, hts, hr, hlocks, hX⟩ := id C0
  have hK := hX.1
  have hN := hX.2
  have hS : va_S A s.heap s.heap [] := va_S.rf
  unfold f_X6_lastShared at hf
  refine lv_sipush (v := (9999 : Int32)) hx hb dX6_lastShared_0 (by decide) ?_
  refine lv_istore_n (lv' := [(2, .int (9999 : Int32)), (0, .ref a0), (1, .int x1)]) hx hb dX6_lastShared_3 rfl hl (by decide) rfl (fun ls hl => ?_)
  refine lv_iconst (v := (0 : Int32)) hx hb dX6_lastShared_4 (by decide) ?_
  refine lv_istore_n (lv' := [(3, .int (0 : Int32)), (2, .int (9999 : Int32)), (0, .ref a0), (1, .int x1)]) hx hb dX6_lastShared_5 rfl hl (by decide) rfl (fun ls hl => ?_)
  exact k_X6_lastShared_6 C0 hA FU (9999 : Int32) (0 : Int32) hf _ _ hP hD hS ls (lv_sub hl [2, 3, 1, 0] rfl)

/-! ===== OrphanWave$Sheets.sheetsAt(I)I ===== -/
abbrev rm_X6_sheetsAt : Room := { frames := 1, cells := 0, slots := 0, locals := 22 }
abbrev w_X6_sheetsAt (a0 : Nat) (q_olds : Nat) (q_youngs : Nat) (q_marshes : Nat) (cA : Nat → ClassId) (s_count : Int32) (s_olds : Nat → Int32) (s_youngs : Nat → Int32) : va_W := [(a0, .inr (6, [.ref q_marshes, .ref q_olds, .ref q_youngs, .int s_count])), (q_olds, .inl (cA 1, 12, .inl s_olds)), (q_youngs, .inl (cA 1, 12, .inl s_youngs))]
theorem hn_X6_sheetsAt_X6 : ∀ w ∈ u_ws RX6 TX6 4, w ∈ wsX6_sheetsAt := by decide +kernel
theorem hw_X6_sheetsAt_f21 : Cond.fieldLink RX6 21 "OrphanWave$Sheets" "count" "I" ∈ wsX6_sheetsAt := by decide +kernel
theorem hw_X6_sheetsAt_f15 : Cond.fieldLink RX6 15 "OrphanWave$Sheets" "olds" "[I" ∈ wsX6_sheetsAt := by decide +kernel
theorem hw_X6_sheetsAt_f18 : Cond.fieldLink RX6 18 "OrphanWave$Sheets" "youngs" "[I" ∈ wsX6_sheetsAt := by decide +kernel
theorem hw_X6_sheetsAt_iX11 : Cond.initialized RX11 ∈ wsX6_sheetsAt := by decide +kernel
theorem hw_X6_sheetsAt_sX11_within : Cond.static yX11_within ∈ wsX6_sheetsAt := by decide +kernel

def f_X6_sheetsAt_4 (s_count : Int32) (s_olds : Nat → Int32) (s_youngs : Nat → Int32) (x1 : Int32) : Nat → (Int32) → (Int32) → Option ((Int32))
  | 0, _, _ => none
  | k + 1, x2, x3 =>
    pbr (s_count ≤ x3)
      (some (x2))
      (pgd (pin x3 12) (
      pcl (f_X11_within x1 (s_olds x3.toNatClampNeg) (s_youngs x3.toNatClampNeg)) (fun r_3 => (
      pbr (r_3 = 0)
        (plt (x3 + (1 : Int32) : Int32) (fun x3_6 => (
        (f_X6_sheetsAt_4 s_count s_olds s_youngs x1 k) x2 x3_6)))
        (plt ((x2 ||| ((1 : Int32) <<< (x3 &&& 31))) : Int32) (fun x2_7 => (
        plt (x3 + (1 : Int32) : Int32) (fun x3_8 => (
        (f_X6_sheetsAt_4 s_count s_olds s_youngs x1 k) x2_7 x3_8)))))))))

set_option maxRecDepth 100000 in
set_option maxHeartbeats 4000000 in
theorem k_X6_sheetsAt_4 {p : Program} {l : Launch} {e : Env} {s : State} {m : MethodId} {args : Array Value} {below : List Frame} {meth : Method} {c : Code} {A : Nat → Prop} {D : va_G} {cA : Nat → ClassId} (C0 : MX p s m args meth c cX6_sheetsAt 4 wsX6_sheetsAt RX6 (some .int) D cA) (hA : ∀ q, s.heap.size ≤ q → A q) {a0 : Nat} {q_olds : Nat} {q_youngs : Nat} {q_marshes : Nat} {s_count : Int32} {s_olds : Nat → Int32} {s_youngs : Nat → Int32} {x1 : Int32} {o_r : Int32} : ∀ (k : Nat) (x2 : Int32) (x3 : Int32), f_X6_sheetsAt_4 s_count s_olds s_youngs x1 k x2 x3 = some o_r → ∀ (H : Heap) (locs : List Loc), va_P D vwCl (w_X6_sheetsAt a0 q_olds q_youngs q_marshes cA s_count s_olds s_youngs) H → va_D A (w_X6_sheetsAt a0 q_olds q_youngs q_marshes cA s_count s_olds s_youngs) → va_S A s.heap H locs → ∀ ls : Array Slot, lv_has ls 4 [(0, .ref a0), (1, .int x1), (2, .int x2), (3, .int x3)] → W p l e rm_X6_sheetsAt s m args below meth c H locs 0 0 (MQ below (CQ D (some (.int o_r)) (w_X6_sheetsAt a0 q_olds q_youngs q_marshes cA s_count s_olds s_youngs) A) args s 0 0 A) (F0 m 4 ls []) := by
  obtain ⟨hx, hb, hml, hown, hts, hr, hlocks, hX⟩ := C0
  have hK := hX.1
  have hN := hX.2
  intro k
  induction k with
  | zero =>
    intro x2 x3 hf
    cases hf
  | succ k ih =>
    intro x2 x3 hf H locs hP hD hS ls hl
    rw [f_X6_sheetsAt_4] at hf
    refine lv_iload_n hx hb dX6_sheetsAt_4 rfl (lv_at hl 3 rfl) ?_
    refine lv_aload_n hx hb dX6_sheetsAt_5 rfl (lv_at hl 0 rfl) ?_
    refine va_get (D := D) (ci := 6) (v := .int s_count) (C := RX6) (T := TX6) (N := 4) hx hb hts hn_X6_sheetsAt_X6 hown hK hP 0 rfl rfl 3 (by decide) (hts _ hw_X6_sheetsAt_f21) (fun _ h9 => h9) rfl dX6_sheetsAt_6 ?_
    refine lv_icmp_ge (tgt := 43) hx hb dX6_sheetsAt_9 (by decide) (fun c_1 => ?_) (fun c_1 => ?_)
    · have hf := pbr_t c_1 hf
      refine lv_iload_n hx hb dX6_sheetsAt_43 rfl (lv_at hl 2 rfl) ?_
      obtain rfl := pe1 hf
      exact m_iret hx hb hr hlocks hP hS dX6_sheetsAt_44
    have hf := pbr_f c_1 hf
    refine lv_iload_n hx hb dX6_sheetsAt_12 rfl (lv_at hl 1 rfl) ?_
    refine lv_aload_n hx hb dX6_sheetsAt_13 rfl (lv_at hl 0 rfl) ?_
    refine va_get (D := D) (ci := 6) (v := .ref q_olds) (C := RX6) (T := TX6) (N := 4) hx hb hts hn_X6_sheetsAt_X6 hown hK hP 0 rfl rfl 1 (by decide) (hts _ hw_X6_sheetsAt_f15) (fun _ h9 => h9) rfl dX6_sheetsAt_14 ?_
    refine lv_iload_n hx hb dX6_sheetsAt_17 rfl (lv_at hl 3 rfl) ?_
    obtain ⟨g_2, hf⟩ := pgd_e hf
    refine va_iald hx hb hK hP 1 1 rfl rfl g_2 dX6_sheetsAt_18 ?_
    refine lv_aload_n hx hb dX6_sheetsAt_19 rfl (lv_at hl 0 rfl) ?_
    refine va_get (D := D) (ci := 6) (v := .ref q_youngs) (C := RX6) (T := TX6) (N := 4) hx hb hts hn_X6_sheetsAt_X6 hown hK hP 0 rfl rfl 2 (by decide) (hts _ hw_X6_sheetsAt_f18) (fun _ h9 => h9) rfl dX6_sheetsAt_20 ?_
    refine lv_iload_n hx hb dX6_sheetsAt_23 rfl (lv_at hl 3 rfl) ?_
    refine va_iald hx hb hK hP 2 1 rfl rfl g_2 dX6_sheetsAt_24 ?_
    obtain ⟨r_3, hc_4, hf⟩ := pcl_e hf
    refine m_callSN2 (As := [.int x1, .int (s_olds x3.toNatClampNeg), .int (s_youngs x3.toNatClampNeg)]) (rest := []) ⟨hx, hb, hml, hown, hts⟩ hX (ct_X11_within l D cA x1 (s_olds x3.toNatClampNeg) (s_youngs x3.toNatClampNeg) r_3 hc_4) ⟨va_cnB 3 hts ggX6_sheetsAt_X11_within rfl rfl rfl (hN _ nw_X6_40) (hts _ hw_X6_sheetsAt_iX11) (by decide +kernel) ⟨Nat.le_of_ble_eq_true rfl, Nat.le_of_ble_eq_true rfl⟩, hts _ hw_X6_sheetsAt_sX11_within, trivial⟩ hP hD hS hA [] [0, 1, 2] 3 (by decide) rfl rfl (WS' := (w_X6_sheetsAt a0 q_olds q_youngs q_marshes cA s_count s_olds s_youngs)) (WR := [(a0, .inr (6, [.ref q_marshes, .ref q_olds, .ref q_youngs, .int s_count])), (q_olds, .inl (cA 1, 12, .inl s_olds)), (q_youngs, .inl (cA 1, 12, .inl s_youngs))]) rfl rfl rfl rfl (by decide) (by decide) rfl hl.1 rfl (st' := [.int r_3]) rfl (Nat.le_of_ble_eq_true rfl) ⟨Nat.zero_le _, Nat.zero_le _⟩ dX6_sheetsAt_25 (fun H locs hP hD hS => ?_)
    refine lv_if_eq (tgt := 37) hx hb dX6_sheetsAt_28 (by decide) (fun c_5 => ?_) (fun c_5 => ?_)
    · have hf := pbr_t c_5 hf
      obtain ⟨x3_6, ex3_6⟩ : ∃ z : Int32, z = x3 + (1 : Int32) := ⟨_, rfl⟩
      have hf := plt_e ex3_6 hf
      refine lv_iinc (v := x3_6) (lv' := [(3, .int x3_6), (0, .ref a0), (1, .int x1), (2, .int x2)]) hx hb dX6_sheetsAt_37 hl (k := 3) rfl (by rw [ex3_6]; rfl) (by decide) rfl (fun ls hl => ?_)
      refine lv_goto (tgt := 4) hx hb dX6_sheetsAt_40 (by decide) ?_
      exact ih x2 x3_6 hf _ _ hP hD hS ls (lv_sub hl [1, 2, 3, 0] rfl)
    have hf := pbr_f c_5 hf
    refine lv_iload_n hx hb dX6_sheetsAt_31 rfl (lv_at hl 2 rfl) ?_
    refine lv_iconst (v := (1 : Int32)) hx hb dX6_sheetsAt_32 (by decide) ?_
    refine lv_iload_n hx hb dX6_sheetsAt_33 rfl (lv_at hl 3 rfl) ?_
    refine lv_ishl hx hb dX6_sheetsAt_34 ?_
    refine lv_ior hx hb dX6_sheetsAt_35 ?_
    refine lv_topi (fun x2_7 ex2_7 => ?_)
    have hf := plt_e ex2_7 hf
    refine lv_istore_n (lv' := [(2, .int x2_7), (0, .ref a0), (1, .int x1), (3, .int x3)]) hx hb dX6_sheetsAt_36 rfl hl (by decide) rfl (fun ls hl => ?_)
    obtain ⟨x3_8, ex3_8⟩ : ∃ z : Int32, z = x3 + (1 : Int32) := ⟨_, rfl⟩
    have hf := plt_e ex3_8 hf
    refine lv_iinc (v := x3_8) (lv' := [(3, .int x3_8), (2, .int x2_7), (0, .ref a0), (1, .int x1)]) hx hb dX6_sheetsAt_37 hl (k := 3) rfl (by rw [ex3_8]; rfl) (by decide) rfl (fun ls hl => ?_)
    refine lv_goto (tgt := 4) hx hb dX6_sheetsAt_40 (by decide) ?_
    exact ih x2_7 x3_8 hf _ _ hP hD hS ls (lv_sub hl [2, 3, 1, 0] rfl)

def f_X6_sheetsAt (x1 : Int32) (s_count : Int32) (s_olds : Nat → Int32) (s_youngs : Nat → Int32) : Option ((Int32)) :=
  f_X6_sheetsAt_4 s_count s_olds s_youngs x1 FU (0 : Int32) (0 : Int32)

set_option maxRecDepth 100000 in
set_option maxHeartbeats 4000000 in
theorem ct_X6_sheetsAt (l : Launch) (D : va_G) (cA : Nat → ClassId) (x1 : Int32) (a0 : Nat) (q_olds : Nat) (q_youngs : Nat) (q_marshes : Nat) (s_count : Int32) (s_olds : Nat → Int32) (s_youngs : Nat → Int32) (o_r : Int32) (hf : f_X6_sheetsAt x1 s_count s_olds s_youngs = some o_r) : CT l yX6_sheetsAt wsX6_sheetsAt rm_X6_sheetsAt D cA [.ref a0, .int x1] (w_X6_sheetsAt a0 q_olds q_youngs q_marshes cA s_count s_olds s_youngs) (w_X6_sheetsAt a0 q_olds q_youngs q_marshes cA s_count s_olds s_youngs) (some (.int o_r)) := by
  refine CT.ofW (cc := cX6_sheetsAt) (maxL := 4) (ret := (some .int)) (by decide +kernel) rfl (Nat.le_of_ble_eq_true rfl) ?_
  intro p e s m below meth c A C0 hA hP hD ls hl
  have C0 : MX p s m [.ref a0, .int x1].toArray meth c cX6_sheetsAt 4 wsX6_sheetsAt RX6 (some .int) D cA := C0
  have hl : lv_has ls 4 [(0, .ref a0), (1, .int x1)] := hl
  obtain ⟨hx, hb, hml, hown, hts, hr, hlocks, hX⟩ := id C0
  have hK := hX.1
  have hN := hX.2
  have hS : va_S A s.heap s.heap [] := va_S.rf
  unfold f_X6_sheetsAt at hf
  refine lv_iconst (v := (0 : Int32)) hx hb dX6_sheetsAt_0 (by decide) ?_
  refine lv_istore_n (lv' := [(2, .int (0 : Int32)), (0, .ref a0), (1, .int x1)]) hx hb dX6_sheetsAt_1 rfl hl (by decide) rfl (fun ls hl => ?_)
  refine lv_iconst (v := (0 : Int32)) hx hb dX6_sheetsAt_2 (by decide) ?_
  refine lv_istore_n (lv' := [(3, .int (0 : Int32)), (2, .int (0 : Int32)), (0, .ref a0), (1, .int x1)]) hx hb dX6_sheetsAt_3 rfl hl (by decide) rfl (fun ls hl => ?_)
  exact k_X6_sheetsAt_4 C0 hA FU (0 : Int32) (0 : Int32) hf _ _ hP hD hS ls (lv_sub hl [2, 3, 1, 0] rfl)
